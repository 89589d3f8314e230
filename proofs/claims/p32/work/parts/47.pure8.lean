section PU8
theorem InvE_turn {σ σ' : Nat → Nat → Int32} {N P Q k s' : Nat} (h : InvEx σ N P Q k) (hk : k < N) (hs' : s' = 1 ∨ s' = 2 ∨ s' = 3) (h2 : σ' 19 k = nI s') (h3 : ∀ i, i ≠ k → σ' 19 i = σ 19 i) (h20k : σ 20 k = -1)
    (h1 : σ' 1 1 = σ 1 1) (h8 : σ' 8 = σ 8) (h13 : σ' 13 = σ 13) (h17 : σ' 17 = σ 17) (h18 : σ' 18 = σ 18) (h20 : σ' 20 = σ 20) (h21 : σ' 21 = σ 21) (h22 : σ' 22 = σ 22) (h23 : σ' 23 = σ 23) (h24 : ∀ i, N ≤ i → σ' 24 i = σ 24 i) : InvE σ' N P Q := by
  refine ⟨fun i hi => ?_, fun i hi => ?_, fun i hi hi40 => ?_⟩
  · obtain ⟨a1, a2, a3, a4, a5⟩ := h.1 i hi
    rw [h17, h18, h13, jP_dep h17, h21, h22, h20]
    by_cases e : i = k
    · subst e
      refine ⟨a1, a2, ?_, a4, fun q => ?_, fun _ => h20k⟩
      · rw [h2]
        rcases hs' with rfl | rfl | rfl <;> simp
      · rw [h2] at q
        rw [nI_eq (by omega) (by omega)] at q
        omega
    · rw [h3 i e]
      exact ⟨a1, a2, a3, a4, fun q => Prog_dep h1 h20 h23 ((a5 e).1 q), (a5 e).2⟩
  · rw [h21, h8, jK_dep (fun q _ => jGiven_dep h23 i q)]
    simp only [jGiven_dep h23]
    exact h.2.1 i hi
  · rw [h22, h24 i hi]
    exact h.2.2 i hi hi40
theorem cF_le {σ : Nat → Nat → Int32} {N c : Nat} (h : InvC σ N) (hN : N ≤ 40) (hc : c < 6) : 0 ≤ (σ 12 c).toInt ∧ (σ 12 c).toInt ≤ 40 := by
  have h6 := cN_le (fun i => isS σ 1 i && decide (jC σ i = c)) N
  rw [h.2.2.2 c hc, tI_n (by omega)]
  omega
theorem cP_le {σ : Nat → Nat → Int32} {N P p : Nat} (h : InvD σ N P) (hN : N ≤ 40) (hp : p < P) : 0 ≤ (σ 15 p).toInt ∧ (σ 15 p).toInt ≤ 480 := by
  have h6 := cN_le (fun i => isS σ 1 i && decide (jP σ i = p)) N
  have h7 := cN_le (fun i => isS σ 2 i && decide (jP σ i = p)) N
  rw [(h p hp).2.2.1, tI_n (by omega)]
  omega
/-- rows of a turn with its quota and points -/
theorem turn_rows (σ : Nat → Nat → Int32) (k c p : Nat) (x y z : Int32) : (∀ r, r ≠ 19 → r ≠ 12 → r ≠ 15 → sW (sW (sW σ 19 k x) 12 c y) 15 p z r = σ r) ∧ (∀ j, sW (sW (sW σ 19 k x) 12 c y) 15 p z 19 j = if j = k then x else σ 19 j) ∧ (∀ j, sW (sW (sW σ 19 k x) 12 c y) 15 p z 12 j = if j = c then y else σ 12 j) ∧ (∀ j, sW (sW (sW σ 19 k x) 12 c y) 15 p z 15 j = if j = p then z else σ 15 j) := by
  refine ⟨fun r h1 h2 h3 => by rw [sW_nk _ _ _ h3, sW_nk _ _ _ h2, sW_nk _ _ _ h1], fun j => ?_, fun j => ?_, fun j => ?_⟩
  · rw [sW_nk _ _ _ (by decide), sW_nk _ _ _ (by decide)]
    by_cases e : j = k
    · subst e; rw [if_pos rfl, sW_at]
    · rw [if_neg e, sW_ni _ _ _ e]
  · rw [sW_nk _ _ _ (by decide)]
    by_cases e : j = c
    · subst e; rw [if_pos rfl, sW_at]
    · rw [if_neg e, sW_ni _ _ _ e, sW_nk _ _ _ (by decide)]
  · by_cases e : j = p
    · subst e; rw [if_pos rfl, sW_at]
    · rw [if_neg e, sW_ni _ _ _ e, sW_nk _ _ _ (by decide), sW_nk _ _ _ (by decide)]
/-- the words but the WEIGHTS', behind a turn from s to s' -/
theorem turn_ok {σ : Nat → Nat → Int32} {N P Q n k s s' : Nat} {δ ε : Int32} (hS : InvS σ N P Q n) (hF : InvF σ Q) (hC : InvC σ N) (hD : InvD σ N P) (hE : InvEx σ N P Q k) (hk : k < N) (hs : s = 0 ∨ s = 1) (hs' : s' = 1 ∨ s' = 2 ∨ s' = 3) (h19 : σ 19 k = nI s) (h20 : σ 20 k = -1)
    (hδ : δ.toInt = (if s' = 1 then 1 else 0) - (if s = 1 then 1 else 0)) (hε : ε.toInt = 10 * ((if s' = 1 then 1 else 0) - (if s = 1 then 1 else 0)) + 2 * ((if s' = 2 then 1 else 0) - (if s = 2 then 1 else 0)))
    (τ : Nat → Nat → Int32) (hτ : τ = sW (sW (sW σ 19 k (nI s')) 12 (jC σ k) (σ 12 (jC σ k) + δ)) 15 (jP σ k) (σ 15 (jP σ k) + ε)) : InvS τ N P Q n ∧ InvF τ Q ∧ InvC τ N ∧ InvD τ N P ∧ InvE τ N P Q := by
  obtain ⟨-, hN40, -, hP24, -, -, -, -⟩ := id hS
  obtain ⟨r0, r19, r12, r15⟩ := turn_rows σ k (jC σ k) (jP σ k) (nI s') (σ 12 (jC σ k) + δ) (σ 15 (jP σ k) + ε)
  rw [← hτ] at r0 r19 r12 r15
  have q : ∀ r, (decide (r ≠ 19) && decide (r ≠ 12) && decide (r ≠ 15)) = true → τ r = σ r := fun r hr => by
    simp only [Bool.and_eq_true, decide_eq_true_eq] at hr
    exact r0 r hr.1.1 hr.1.2 hr.2
  have hpe : jP σ k < P := by
    have h1 := (hE.1 k hk).1
    have h2 : ((jP σ k : Nat) : Int) = (σ 17 k).toInt := clamp_toInt h1.1
    omega
  have hce : jC σ k < 6 := by
    have h1 := (hE.1 k hk).2.1
    have h2 := (hD (jP σ k) hpe).1
    rw [← h1] at h2
    have h3 : ((jC σ k : Nat) : Int) = (σ 18 k).toInt := clamp_toInt h2.1
    omega
  have hf := cF_le hC hN40 hce
  have hp := cP_le hD hN40 hpe
  have hδ1 : -1 ≤ δ.toInt ∧ δ.toInt ≤ 1 := by rw [hδ]; constructor <;> split <;> split <;> omega
  have hε1 : -20 ≤ ε.toInt ∧ ε.toInt ≤ 20 := by rw [hε]; constructor <;> split <;> split <;> split <;> split <;> omega
  refine ⟨InvS_dep (congrFun (q 0 rfl) 0) (congrFun (q 1 rfl) 0) (congrFun (q 3 rfl) 0) (congrFun (q 4 rfl) 0) hS, InvF_dep (q 8 rfl) (q 9 rfl) (q 1 rfl) hF, ?_, ?_, ?_⟩
  · refine InvC_turn hC hN40 hk (s := s) (s' := s') (by omega) (by omega) h19 (by rw [r19, if_pos rfl]) (fun i hi => by rw [r19, if_neg hi]) (q 18 rfl) (q 11 rfl) (q 2 rfl) (fun c hc => by rw [r12, if_neg hc]) ?_
    rw [r12, if_pos rfl, tI_add (by omega) (by omega), hδ]
    omega
  · refine InvD_turn hD hN40 hk (s := s) (s' := s') hs (by omega) h19 (by rw [r19, if_pos rfl]) (fun i hi => by rw [r19, if_neg hi]) (q 17 rfl) (q 13 rfl) (q 14 rfl) (q 16 rfl) (fun p hp => by rw [r15, if_neg hp]) ?_
    rw [r15, if_pos rfl, tI_add (by omega) (by omega), hε]
    omega
  · exact InvE_turn hE hk hs' (by rw [r19, if_pos rfl]) (fun i hi => by rw [r19, if_neg hi]) h20 (congrFun (q 1 rfl) 1) (q 8 rfl) (q 13 rfl) (q 17 rfl) (q 18 rfl) (q 20 rfl) (q 21 rfl) (q 22 rfl) (q 23 rfl) (fun i _ => by rw [q 24 rfl])
theorem weigh_ok {σ : Nat → Nat → Int32} {N P Q n : Nat} (hS : InvS σ N P Q n) (hF : InvF σ Q) (hC : InvC σ N) (hD : InvD σ N P) (hE : InvE σ N P Q) : Inv (jWeigh σ 24 N n) N P Q n := by
  have q : ∀ r, r ≠ 24 → jWeigh σ 24 N n r = σ r := fun r hr => jWeigh_ne σ N n hr
  exact ⟨InvS_dep (by rw [q 0 (by decide)]) (by rw [q 1 (by decide)]) (by rw [q 3 (by decide)]) (by rw [q 4 (by decide)]) hS, InvF_dep (q 8 (by decide)) (q 9 (by decide)) (q 1 (by decide)) hF,
    InvC_dep (q 11 (by decide)) (q 2 (by decide)) (q 12 (by decide)) (q 19 (by decide)) (q 18 (by decide)) hC, InvD_dep (q 13 (by decide)) (fun p hp => by rw [q 14 (by decide)]; exact (hD p hp).2.1) (q 15 (by decide)) (q 16 (by decide)) (q 17 (by decide)) (q 19 (by decide)) hD,
    InvE_dep (by rw [q 1 (by decide)]) (q 8 (by decide)) (q 13 (by decide)) (q 17 (by decide)) (q 18 (by decide)) (q 19 (by decide)) (q 20 (by decide)) (q 21 (by decide)) (q 22 (by decide)) (q 23 (by decide)) (fun i hi => jWeigh_out σ 24 N n (by decide) hi) hE, InvW_weigh σ N n⟩
theorem InvW_turn {σ τ : Nat → Nat → Int32} {N n k : Nat} (h11 : τ 11 = σ 11) (h18 : τ 18 = σ 18) (h19 : ∀ i, i < N → isS τ 1 i = isS σ 1 i) (h24 : τ 24 = σ 24) (h : InvW σ N n) : InvW τ N n := fun i hi => by
  rw [h24, h i hi]
  exact wAll_congr (fun j hj => (h19 j hj).symm) (fun j _ => by rw [jC_dep h18]) (fun g _ => by rw [jMargin_dep' h11]) i hi
/-- at the END -/
theorem finish_ok {σ : Nat → Nat → Int32} {N P Q n i : Nat} (hS : InvS σ N P Q n) (hF : InvF σ Q) (hC : InvC σ N) (hD : InvD σ N P) (hE : InvEx σ N P Q i) (hW : InvW σ N n) (hi : i < N) (h19 : σ 19 i = nI 0) (h20 : σ 20 i = -1) : Inv (jFinish σ N n i) N P Q n ∧ jFinish σ N n i 19 i ≠ nI 0 ∧ (∀ k, k ≠ 19 → k ≠ 12 → k ≠ 15 → k ≠ 24 → jFinish σ N n i k = σ k) := by
  unfold jFinish
  split
  · obtain ⟨a, b, c, d, e⟩ := turn_ok (s := 0) (s' := 1) (δ := nI 1) (ε := nI 10) hS hF hC hD hE hi (Or.inl rfl) (Or.inl rfl) h19 h20 (by decide) (by decide) (jDone σ i) rfl
    refine ⟨weigh_ok a b c d e, ?_, fun k k1 k2 k3 k4 => ?_⟩
    · rw [jWeigh_ne _ N n (by decide), show jDone σ i 19 i = nI 1 from by unfold jDone; rw [(turn_rows σ i _ _ _ _ _).2.1, if_pos rfl]]
      decide
    · rw [jWeigh_ne _ N n k4]
      exact (turn_rows σ i _ _ _ _ _).1 k k1 k2 k3
  · have hout : jOut σ i = sW (sW (sW σ 19 i (nI 2)) 12 (jC σ i) (σ 12 (jC σ i) + 0)) 15 (jP σ i) (σ 15 (jP σ i) + nI 2) := by
      unfold jOut
      funext r j
      by_cases h15 : r = 15
      · subst h15
        simp [sW, upd]
      · rw [sW_nk _ _ _ h15, sW_nk _ _ _ h15]
        by_cases h12 : r = 12
        · subst h12
          rw [Int32.add_zero]
          by_cases e : j = jC σ i
          · subst e
            rw [sW_at, sW_nk _ _ _ (by decide)]
          · rw [sW_ni _ _ _ e]
        · rw [sW_nk _ _ _ h12]
    obtain ⟨a, b, c, d, e⟩ := turn_ok (s := 0) (s' := 2) (δ := 0) (ε := nI 2) hS hF hC hD hE hi (Or.inl rfl) (Or.inr (Or.inl rfl)) h19 h20 (by decide) (by decide) (jOut σ i) hout
    obtain ⟨r0, r19, -, -⟩ := turn_rows σ i (jC σ i) (jP σ i) (nI 2) (σ 12 (jC σ i) + 0) (σ 15 (jP σ i) + nI 2)
    rw [← hout] at r0 r19
    refine ⟨⟨a, b, c, d, e, InvW_turn (k := i) (r0 11 (by decide) (by decide) (by decide)) (r0 18 (by decide) (by decide) (by decide)) (fun j hj => ?_) (r0 24 (by decide) (by decide) (by decide)) hW⟩, ?_, fun k k1 k2 k3 _ => r0 k k1 k2 k3⟩
    · unfold isS
      rw [r19]
      by_cases e : j = i
      · subst e
        rw [if_pos rfl, h19]
        decide
      · rw [if_neg e]
    · rw [r19, if_pos rfl]
      decide
/-- an ANSWER keeps all words -/
theorem answer_ok {σ : Nat → Nat → Int32} {N P Q n i pl a s : Nat} (h : Inv σ N P Q n) (hi : i < N) (h19 : σ 19 i = nI 0) (h20 : σ 20 i = nI pl) (hpl : pl < Q) (ha : a < jA σ pl) (hs1 : 1 ≤ s) (hs99 : s ≤ 99) :
    Inv (jAns σ N n i pl a (nI s)) N P Q n ∧ jAns σ N n i pl a (nI s) 20 i = jAnsT σ i pl a (nI s) ∧ (jAnsT σ i pl a (nI s) < 0 ↔ jAns σ N n i pl a (nI s) 19 i ≠ nI 0) ∧ jGiven (jAns σ N n i pl a (nI s)) i pl = nI a ∧ (∀ k, k ≠ 12 → k ≠ 15 → k ≠ 19 → k ≠ 20 → k ≠ 21 → k ≠ 22 → k ≠ 23 → k ≠ 24 → jAns σ N n i pl a (nI s) k = σ k) := by
  obtain ⟨a1, a2, a3, a4, a5, a6, a7, a8, a9⟩ := note_ok h hi h19 h20 hpl ha hs1 hs99 _ rfl
  have hQ10 := h.1.2.2.2.2.2.1
  obtain ⟨r0, r20, r21, r22, r23⟩ := jAns1_rows σ i pl a (nI s)
  unfold jAns
  split
  · rename_i hT
    obtain ⟨b1, b2, b3⟩ := finish_ok a1 a2 a3 a4 a5 a6 hi a7 (a8.trans hT)
    refine ⟨b1, ?_, ?_, ?_, fun k k1 k2 k3 k4 k5 k6 k7 k8 => ?_⟩
    · rw [b3 20 (by decide) (by decide) (by decide) (by decide), a8]
    · rw [hT]
      exact ⟨fun _ => b2, fun _ => by decide⟩
    · rw [jGiven_dep (b3 23 (by decide) (by decide) (by decide) (by decide)), r23 i pl (by omega) (by omega), if_pos ⟨rfl, rfl⟩]
    · rw [b3 k k3 k1 k2 k8, r0 k k4 k5 k6 k7]
  · rename_i hT
    obtain ⟨hp, h0⟩ := a9.resolve_left hT
    refine ⟨⟨a1, a2, a3, a4, InvE_of a5 ⟨fun _ => hp, fun q => absurd a7 q⟩, a6⟩, a8, ?_, ?_, fun k k1 k2 k3 k4 k5 k6 k7 k8 => r0 k k4 k5 k6 k7⟩
    · rw [tI_lt, tI_0]
      constructor
      · intro q
        omega
      · intro q
        exact absurd a7 q
    · rw [r23 i pl (by omega) (by omega), if_pos ⟨rfl, rfl⟩]
end PU8
