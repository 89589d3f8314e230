section LWB
/-! the houses that the property's script sets up: no INTERVIEW yet -/
def Set0 (σ : Nat → Nat → Int32) (P Q : Nat) : Prop := InvS σ 0 P Q 3 ∧ InvF σ Q ∧ (∀ c, c < 6 → 0 ≤ (σ 11 c).toInt ∧ (σ 11 c).toInt ≤ 9) ∧ (0 ≤ (σ 2 0).toInt ∧ (σ 2 0).toInt ≤ 3) ∧ (∀ c, c < 6 → σ 12 c = nI 0) ∧
  (∀ p, p < 24 → (0 ≤ (σ 13 p).toInt ∧ (σ 13 p).toInt < 6) ∧ σ 14 p = nI 0 ∧ σ 15 p = nI 0 ∧ (p < P → σ 16 p = -1)) ∧ (∀ i q, i < 40 → q < 10 → jGiven σ i q = -1) ∧ (∀ i, i < 40 → σ 21 i = nI 0 ∧ σ 22 i = nI 0 ∧ σ 24 i = nI 0) ∧
  (∀ f a, Q ≤ f → f < 10 → a < 5 → σ 9 (f * 5 + a) = -2) ∧ σ 7 0 = nI 0
theorem Set0.inv {σ : Nat → Nat → Int32} {P Q : Nat} (h : Set0 σ P Q) : Inv σ 0 P Q 3 := by
  obtain ⟨hS, hF, h11, h2, h12, hD, hG, hE, -, -⟩ := h
  have hP := hS.2.2.2.1
  have hQ := hS.2.2.2.2.2.1
  refine ⟨hS, hF, ⟨h11, h2.1, h2.2, fun c hc => h12 c hc⟩, fun p hp => ?_, ⟨fun i hi => absurd hi (Nat.not_lt_zero i), fun i hi => ⟨?_, fun q hq => Or.inl (hG i q hi hq)⟩, fun i _ hi => (hE i hi).2⟩, fun i hi => absurd hi (Nat.not_lt_zero i)⟩
  · obtain ⟨a, b, c, d⟩ := hD p (by omega)
    refine ⟨a, by rw [b, tI_n (by omega)]; omega, c, Or.inl ⟨d hp, fun i hi => absurd hi (Nat.not_lt_zero i)⟩⟩
  · rw [(hE i hi).1]
    unfold jK
    rw [cN_0 Q (fun q hq => by rw [hG i q hi (by omega)]; rfl)]
theorem set_init : Set0 jInit 0 0 := by
  refine ⟨⟨rfl, by omega, rfl, by omega, rfl, by omega, rfl, by omega⟩, ⟨fun f hf => absurd hf (Nat.not_lt_zero f), fun f a hf => absurd hf (Nat.not_lt_zero f), by decide, by decide, by decide⟩, fun c _ => (by decide : 0 ≤ (0 : Int32).toInt ∧ (0 : Int32).toInt ≤ 9), (by decide : 0 ≤ (0 : Int32).toInt ∧ (0 : Int32).toInt ≤ 3), fun c _ => rfl, fun p _ => ⟨(by decide : 0 ≤ (0 : Int32).toInt ∧ (0 : Int32).toInt < 6), rfl, rfl, fun h => absurd h (Nat.not_lt_zero p)⟩, fun i q hi hq => ?_, fun i _ => ⟨rfl, rfl, rfl⟩, fun f a _ hf ha => ?_, rfl⟩
  · show jFl (fun _ => 0) (-1) 400 (i * 10 + q) = -1
    unfold jFl
    rw [if_pos (by omega)]
  · show jFl (fun _ => 0) (-2) 50 (f * 5 + a) = -2
    unfold jFl
    rw [if_pos (by omega)]
theorem set_q {σ : Nat → Nat → Int32} {P Q a : Nat} (h : Set0 σ P Q) (hQ : Q < 10) (ha : 2 ≤ a) (ha5 : a ≤ 5) (τ : Nat → Nat → Int32) (hτ : τ = sW (sW σ 8 Q (nI a)) 1 0 (nI (Q + 1))) : Set0 τ P (Q + 1) ∧ (∀ f, τ 8 f = if f = Q then nI a else σ 8 f) ∧ τ 1 1 = σ 1 1 ∧ τ 11 = σ 11 ∧ τ 2 = σ 2 := by
  obtain ⟨hS, hF, h11, h2, h12, hD, hG, hE, h9, h7⟩ := h
  have hk : ∀ k, k ≠ 8 → k ≠ 1 → τ k = σ k := fun k h8 h1 => by rw [hτ, sW_nk _ _ _ h1, sW_nk _ _ _ h8]
  have h8 : ∀ f, τ 8 f = if f = Q then nI a else σ 8 f := fun f => by
    rw [hτ, sW_nk _ _ _ (by decide)]
    split
    · rename_i e; subst e; exact sW_at _ _ _ _
    · rename_i e; exact sW_ni _ _ _ e
  have h10 : τ 1 0 = nI (Q + 1) := by rw [hτ]; exact sW_at _ _ _ _
  have h1r : τ 1 1 = σ 1 1 := by rw [hτ, sW_ni _ _ _ (by decide), sW_nk _ _ _ (by decide)]
  have hQz : σ 1 0 = nI Q := hS.2.2.2.2.1
  have hend : ∀ f, f ≤ Q → jEnd τ (nI (f + 1)) = if f + 1 < Q + 1 then nI (f + 1) else -1 := fun f hf => by
    unfold jEnd
    rw [h10]
    by_cases e : f + 1 < Q + 1
    · rw [if_pos (nI_lt e (by omega)), if_pos e]
    · rw [if_neg (nI_nlt (by omega) (by omega)), if_neg e]
  refine ⟨⟨⟨by rw [hk 4 (by decide) (by decide)]; exact hS.1, hS.2.1, by rw [hk 3 (by decide) (by decide)]; exact hS.2.2.1, hS.2.2.2.1, h10, by omega, by rw [hk 0 (by decide) (by decide)]; exact hS.2.2.2.2.2.2.1, by omega⟩, ⟨fun f hf => ?_, fun f b hf hb => ?_, ?_, ?_, ?_⟩, by rw [hk 11 (by decide) (by decide)]; exact h11, by rw [hk 2 (by decide) (by decide)]; exact h2, by rw [hk 12 (by decide) (by decide)]; exact h12, by rw [hk 13 (by decide) (by decide), hk 14 (by decide) (by decide), hk 15 (by decide) (by decide), hk 16 (by decide) (by decide)]; exact hD, fun i q hi hq => by unfold jGiven; rw [hk 23 (by decide) (by decide)]; exact hG i q hi hq, by rw [hk 21 (by decide) (by decide), hk 22 (by decide) (by decide), hk 24 (by decide) (by decide)]; exact hE, fun f b h1 h2 h3 => by rw [hk 9 (by decide) (by decide)]; exact h9 f b (by omega) h2 h3, by rw [hk 7 (by decide) (by decide)]; exact h7⟩, h8, h1r, hk 11 (by decide) (by decide), hk 2 (by decide) (by decide)⟩
  · rw [h8]
    split
    · rw [tI_n (by omega)]; omega
    · exact hF.1 f (by omega)
  · unfold jWay
    rw [hk 9 (by decide) (by decide)]
    by_cases e : f = Q
    · subst e
      rw [if_pos (h9 f b (Nat.le_refl f) hQ hb), hend f (Nat.le_refl f), if_neg (Nat.lt_irrefl _)]
      exact Or.inl rfl
    · have h3 := hF.2.1 f b (by omega) hb
      unfold jWay at h3
      by_cases e2 : σ 9 (f * 5 + b) = -2
      · rw [if_pos e2, hend f (by omega), if_pos (by omega), tI_n (by omega)]
        exact Or.inr (by omega)
      · rw [if_neg e2] at h3 ⊢
        rcases h3 with z | z
        · exact Or.inl z
        · exact Or.inr (by omega)
  · rw [h1r]; exact hF.2.2.1
  · rw [h1r]; exact hF.2.2.2.1
  · rw [h1r]; have := hF.2.2.2.2; omega
theorem set_r {σ : Nat → Nat → Int32} {P Q q a : Nat} {t : Int32} (h : Set0 σ P Q) (hq : q < Q) (ha : a < 5) (ht : t = -1 ∨ ∃ j, t = nI j ∧ q < j ∧ j < Q) (τ : Nat → Nat → Int32) (hτ : τ = sW σ 9 (q * 5 + a) t) : Set0 τ P Q ∧ ∀ k, k ≠ 9 → τ k = σ k := by
  obtain ⟨hS, hF, h11, h2, h12, hD, hG, hE, h9, h7⟩ := h
  have hQ := hS.2.2.2.2.2.1
  have hk : ∀ k, k ≠ 9 → τ k = σ k := fun k h9 => by rw [hτ, sW_nk _ _ _ h9]
  have h99 : ∀ j, τ 9 j = if j = q * 5 + a then t else σ 9 j := fun j => by
    rw [hτ]
    split
    · rename_i e; subst e; exact sW_at _ _ _ _
    · rename_i e; exact sW_ni _ _ _ e
  refine ⟨⟨by unfold InvS; rw [hk 4 (by decide), hk 3 (by decide), hk 1 (by decide), hk 0 (by decide)]; exact hS, ⟨by rw [hk 8 (by decide)]; exact hF.1, fun f b hf hb => ?_, by rw [hk 1 (by decide)]; exact hF.2.2.1, by rw [hk 1 (by decide)]; exact hF.2.2.2.1, by rw [hk 1 (by decide)]; exact hF.2.2.2.2⟩, by rw [hk 11 (by decide)]; exact h11, by rw [hk 2 (by decide)]; exact h2, by rw [hk 12 (by decide)]; exact h12, by rw [hk 13 (by decide), hk 14 (by decide), hk 15 (by decide), hk 16 (by decide)]; exact hD, fun i q hi hq => by unfold jGiven; rw [hk 23 (by decide)]; exact hG i q hi hq, by rw [hk 21 (by decide), hk 22 (by decide), hk 24 (by decide)]; exact hE, fun f b h1 h2 h3 => by rw [h99, if_neg (by omega)]; exact h9 f b h1 h2 h3, by rw [hk 7 (by decide)]; exact h7⟩, hk⟩
  have h3 := hF.2.1 f b hf hb
  unfold jWay jEnd at h3 ⊢
  rw [hk 1 (by decide), h99]
  by_cases e : f * 5 + b = q * 5 + a
  · rw [if_pos e]
    rcases ht with rfl | ⟨j, rfl, hj1, hj2⟩
    · rw [if_neg (by decide)]
      exact Or.inl rfl
    · rw [if_neg (fun z => by have := congrArg Int32.toInt z; rw [tI_n (by omega)] at this; exact absurd this (by rw [show (-2 : Int32).toInt = -2 by decide]; omega)), tI_n (by omega)]
      exact Or.inr (by omega)
  · rw [if_neg e]
    exact h3
theorem set_rot {σ : Nat → Nat → Int32} {P Q r : Nat} (h : Set0 σ P Q) (hr : r ≤ 3) (hrQ : r ≤ Q) (τ : Nat → Nat → Int32) (hτ : τ = sW σ 1 1 (nI r)) : Set0 τ P Q ∧ ∀ k, k ≠ 1 → τ k = σ k := by
  obtain ⟨hS, hF, h11, h2, h12, hD, hG, hE, h9, h7⟩ := h
  have hk : ∀ k, k ≠ 1 → τ k = σ k := fun k h9 => by rw [hτ, sW_nk _ _ _ h9]
  have h10 : τ 1 0 = σ 1 0 := by rw [hτ, sW_ni _ _ _ (by decide)]
  have h1r : τ 1 1 = nI r := by rw [hτ]; exact sW_at _ _ _ _
  have hQ := hS.2.2.2.2.2.1
  refine ⟨⟨by unfold InvS; rw [hk 4 (by decide), hk 3 (by decide), h10, hk 0 (by decide)]; exact hS, ⟨by rw [hk 8 (by decide)]; exact hF.1, fun f b hf hb => by rw [jWay_dep (hk 9 (by decide)) h10]; exact hF.2.1 f b hf hb, by rw [h1r, tI_n (by omega)]; omega, by rw [h1r, tI_n (by omega)]; omega, by rw [h1r, tI_n (by omega)]; omega⟩, by rw [hk 11 (by decide)]; exact h11, by rw [hk 2 (by decide)]; exact h2, by rw [hk 12 (by decide)]; exact h12, by rw [hk 13 (by decide), hk 14 (by decide), hk 15 (by decide), hk 16 (by decide)]; exact hD, fun i q hi hq => by unfold jGiven; rw [hk 23 (by decide)]; exact hG i q hi hq, by rw [hk 21 (by decide), hk 22 (by decide), hk 24 (by decide)]; exact hE, by rw [hk 9 (by decide)]; exact h9, by rw [hk 7 (by decide)]; exact h7⟩, hk⟩
theorem set_p {σ : Nat → Nat → Int32} {P Q c : Nat} (h : Set0 σ P Q) (hP : P < 24) (hc : c < 6) (τ : Nat → Nat → Int32) (hτ : τ = sW (sW (sW σ 13 P (nI c)) 16 P (-1)) 3 0 (nI (P + 1))) : Set0 τ (P + 1) Q ∧ ∀ k, k ≠ 3 → k ≠ 13 → k ≠ 16 → τ k = σ k := by
  obtain ⟨hS, hF, h11, h2, h12, hD, hG, hE, h9, h7⟩ := h
  have hk : ∀ k, k ≠ 3 → k ≠ 13 → k ≠ 16 → τ k = σ k := fun k h1 h2 h3 => by rw [hτ, sW_nk _ _ _ h1, sW_nk _ _ _ h3, sW_nk _ _ _ h2]
  have h30 : τ 3 0 = nI (P + 1) := by rw [hτ]; exact sW_at _ _ _ _
  have h13 : ∀ j, τ 13 j = if j = P then nI c else σ 13 j := fun j => by
    rw [hτ, sW_nk _ _ _ (by decide), sW_nk _ _ _ (by decide)]
    split
    · rename_i e; subst e; exact sW_at _ _ _ _
    · rename_i e; exact sW_ni _ _ _ e
  have h16 : ∀ j, τ 16 j = if j = P then -1 else σ 16 j := fun j => by
    rw [hτ, sW_nk _ _ _ (by decide)]
    split
    · rename_i e; subst e; exact sW_at _ _ _ _
    · rename_i e; rw [sW_ni _ _ _ e, sW_nk _ _ _ (by decide)]
  refine ⟨⟨⟨by rw [hk 4 (by decide) (by decide) (by decide)]; exact hS.1, hS.2.1, h30, by omega, by rw [hk 1 (by decide) (by decide) (by decide)]; exact hS.2.2.2.2.1, hS.2.2.2.2.2.1, by rw [hk 0 (by decide) (by decide) (by decide)]; exact hS.2.2.2.2.2.2.1, by omega⟩, ⟨by rw [hk 8 (by decide) (by decide) (by decide)]; exact hF.1, fun f b hf hb => by rw [jWay_dep (hk 9 (by decide) (by decide) (by decide)) (by rw [hk 1 (by decide) (by decide) (by decide)])]; exact hF.2.1 f b hf hb, by rw [hk 1 (by decide) (by decide) (by decide)]; exact hF.2.2⟩, by rw [hk 11 (by decide) (by decide) (by decide)]; exact h11, by rw [hk 2 (by decide) (by decide) (by decide)]; exact h2, by rw [hk 12 (by decide) (by decide) (by decide)]; exact h12, fun p hp => ?_, fun i q hi hq => by unfold jGiven; rw [hk 23 (by decide) (by decide) (by decide)]; exact hG i q hi hq, by rw [hk 21 (by decide) (by decide) (by decide), hk 22 (by decide) (by decide) (by decide), hk 24 (by decide) (by decide) (by decide)]; exact hE, by rw [hk 9 (by decide) (by decide) (by decide)]; exact h9, by rw [hk 7 (by decide) (by decide) (by decide)]; exact h7⟩, hk⟩
  obtain ⟨x1, x2, x3, x4⟩ := hD p hp
  rw [hk 14 (by decide) (by decide) (by decide), hk 15 (by decide) (by decide) (by decide), h13, h16]
  refine ⟨?_, x2, x3, fun hp2 => ?_⟩
  · split
    · rw [tI_n (by omega)]; omega
    · exact x1
  · split
    · rfl
    · exact x4 (by omega)
theorem set_t {σ : Nat → Nat → Int32} {P Q c t : Nat} (h : Set0 σ P Q) (hc : c < 6) (ht : t ≤ 9) (τ : Nat → Nat → Int32) (hτ : τ = jWeigh (sW σ 11 c (nI t)) 24 0 3) : Set0 τ P Q ∧ (∀ k, k ≠ 11 → k ≠ 24 → τ k = σ k) ∧ ∀ j, τ 11 j = if j = c then nI t else σ 11 j := by
  obtain ⟨hS, hF, h11, h2, h12, hD, hG, hE, h9, h7⟩ := h
  have hk : ∀ k, k ≠ 11 → k ≠ 24 → τ k = σ k := fun k h1 h2 => by rw [hτ, jWeigh_ne _ 0 3 h2, sW_nk _ _ _ h1]
  have h24 : ∀ i, τ 24 i = σ 24 i := fun i => by rw [hτ, jWeigh_out _ 24 0 3 (by decide) (Nat.zero_le i), sW_nk _ _ _ (by decide)]
  have h11' : ∀ j, τ 11 j = if j = c then nI t else σ 11 j := fun j => by
    rw [hτ, jWeigh_ne _ 0 3 (by decide)]
    split
    · rename_i e; subst e; exact sW_at _ _ _ _
    · rename_i e; exact sW_ni _ _ _ e
  refine ⟨⟨by unfold InvS; rw [hk 4 (by decide) (by decide), hk 3 (by decide) (by decide), hk 1 (by decide) (by decide), hk 0 (by decide) (by decide)]; exact hS, ⟨by rw [hk 8 (by decide) (by decide)]; exact hF.1, fun f b hf hb => by rw [jWay_dep (hk 9 (by decide) (by decide)) (by rw [hk 1 (by decide) (by decide)])]; exact hF.2.1 f b hf hb, by rw [hk 1 (by decide) (by decide)]; exact hF.2.2⟩, fun j hj => ?_, by rw [hk 2 (by decide) (by decide)]; exact h2, by rw [hk 12 (by decide) (by decide)]; exact h12, by rw [hk 13 (by decide) (by decide), hk 14 (by decide) (by decide), hk 15 (by decide) (by decide), hk 16 (by decide) (by decide)]; exact hD, fun i q hi hq => by unfold jGiven; rw [hk 23 (by decide) (by decide)]; exact hG i q hi hq, fun i hi => by rw [hk 21 (by decide) (by decide), hk 22 (by decide) (by decide), h24]; exact hE i hi, by rw [hk 9 (by decide) (by decide)]; exact h9, by rw [hk 7 (by decide) (by decide)]; exact h7⟩, hk, h11'⟩
  rw [h11']
  split
  · rw [tI_n (by omega)]; omega
  · exact h11 j hj
theorem set_s {σ : Nat → Nat → Int32} {P Q x : Nat} (h : Set0 σ P Q) (hx : x ≤ 3) (τ : Nat → Nat → Int32) (hτ : τ = sW σ 2 0 (nI x)) : Set0 τ P Q ∧ ∀ k, k ≠ 2 → τ k = σ k := by
  obtain ⟨hS, hF, h11, h2, h12, hD, hG, hE, h9, h7⟩ := h
  have hk : ∀ k, k ≠ 2 → τ k = σ k := fun k h1 => by rw [hτ, sW_nk _ _ _ h1]
  have h20 : τ 2 0 = nI x := by rw [hτ]; exact sW_at _ _ _ _
  exact ⟨⟨by unfold InvS; rw [hk 4 (by decide), hk 3 (by decide), hk 1 (by decide), hk 0 (by decide)]; exact hS, ⟨by rw [hk 8 (by decide)]; exact hF.1, fun f b hf hb => by rw [jWay_dep (hk 9 (by decide)) (by rw [hk 1 (by decide)])]; exact hF.2.1 f b hf hb, by rw [hk 1 (by decide)]; exact hF.2.2⟩, by rw [hk 11 (by decide)]; exact h11, by rw [h20, tI_n (by omega)]; omega, by rw [hk 12 (by decide)]; exact h12, by rw [hk 13 (by decide), hk 14 (by decide), hk 15 (by decide), hk 16 (by decide)]; exact hD, fun i q hi hq => by unfold jGiven; rw [hk 23 (by decide)]; exact hG i q hi hq, by rw [hk 21 (by decide), hk 22 (by decide), hk 24 (by decide)]; exact hE, by rw [hk 9 (by decide)]; exact h9, by rw [hk 7 (by decide)]; exact h7⟩, hk⟩
/-! what is held -/
theorem share_dep {σ τ : Nat → Nat → Int32} (h : ∀ k, k ≠ 7 → k ≠ 26 → τ k = σ k) (N q : Nat) (a A : Int32) : jShare τ 24 N q a A = jShare σ 24 N q a A := by
  have e1 : jCounted τ q A = jCounted σ q A := by
    funext i
    unfold jCounted jGiven jC
    rw [h 19 (by decide) (by decide), h 23 (by decide) (by decide), h 18 (by decide) (by decide)]
  have e2 : ∀ i, jGiven τ i q = jGiven σ i q := fun i => by
    unfold jGiven
    rw [h 23 (by decide) (by decide)]
  unfold jShare
  simp only [e1, e2, h 24 (by decide) (by decide)]
theorem holdA_off (σ : Nat → Nat → Int32) (N R q k : Nat) (h : q ≠ k) : ∀ m, m ≤ 5 → jHoldA σ N R q m 26 (jPlace R k 0) = σ 26 (jPlace R k 0)
  | 0, _ => rfl
  | m + 1, hm => by
    rw [jHoldA, sW_ni _ _ _ (by unfold jPlace; omega), holdA_off σ N R q k h m (by omega)]
theorem holdA_on (σ : Nat → Nat → Int32) (N R q : Nat) : ∀ m, 0 < m → m ≤ 5 → jHoldA σ N R q m 26 (jPlace R q 0) = jShare σ 24 N q (nI 0) (-1)
  | 1, _, _ => by rw [jHoldA, sW_at]; rfl
  | m + 2, _, hm => by
    rw [jHoldA, sW_ni _ _ _ (by unfold jPlace; omega), holdA_on σ N R q (m + 1) (by omega) (by omega)]
theorem holdQ_at {σ : Nat → Nat → Int32} {N R Q : Nat} (hA : ∀ f, f < Q → 0 < jA σ f ∧ jA σ f ≤ 5) : ∀ m, m ≤ Q → ∀ k, k < m → jHoldQ σ N R m 26 (jPlace R k 0) = jShare σ 24 N k (nI 0) (-1)
  | 0, _, k, hk => absurd hk (Nat.not_lt_zero k)
  | m + 1, hm, k, hk => by
    have ha : jA (jHoldQ σ N R m) m = jA σ m := by
      unfold jA
      rw [jHoldQ_ne σ N R (by decide)]
    have hb := hA m (by omega)
    rw [jHoldQ, ha]
    by_cases e : m = k
    · subst e
      rw [holdA_on _ N R m _ hb.1 hb.2, share_dep (fun j _ h26 => jHoldQ_ne σ N R h26 m)]
    · rw [holdA_off _ N R m k e _ hb.2]
      exact holdQ_at hA m (by omega) k (by omega)
end LWB
