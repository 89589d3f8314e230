section PU5
def Inv (σ : Nat → Nat → Int32) (N P Q n : Nat) : Prop := InvS σ N P Q n ∧ InvF σ Q ∧ InvC σ N ∧ InvD σ N P ∧ InvE σ N P Q ∧ InvW σ N n
theorem jWay_dep {σ τ : Nat → Nat → Int32} (h9 : σ 9 = τ 9) (h1 : σ 1 0 = τ 1 0) (q a : Nat) : jWay σ q a = jWay τ q a := by
  unfold jWay jEnd
  rw [h9, h1]
theorem jGiven_dep {σ τ : Nat → Nat → Int32} (h : σ 23 = τ 23) (i q : Nat) : jGiven σ i q = jGiven τ i q := by
  unfold jGiven
  rw [h]
theorem isS_dep {σ τ : Nat → Nat → Int32} (h : σ 19 = τ 19) (s : Nat) : isS σ s = isS τ s := by
  unfold isS
  rw [h]
theorem jC_dep {σ τ : Nat → Nat → Int32} (h : σ 18 = τ 18) : jC σ = jC τ := by
  funext i
  unfold jC
  rw [h]
theorem jP_dep {σ τ : Nat → Nat → Int32} (h : σ 17 = τ 17) : jP σ = jP τ := by
  funext i
  unfold jP
  rw [h]
theorem jMargin_dep' {σ τ : Nat → Nat → Int32} (h : σ 11 = τ 11) : jMargin σ = jMargin τ := by
  funext g
  exact jMargin_dep (fun c _ => by rw [h]) g
theorem jK_dep {σ τ : Nat → Nat → Int32} {Q i : Nat} (h : ∀ q, q < Q → jGiven τ i q = jGiven σ i q) : jK τ Q i = jK σ Q i := cN_congr Q (fun q hq => by rw [h q hq])
theorem Pr_dep {σ τ : Nat → Nat → Int32} {Q i pl c : Nat} (h1 : τ 1 1 = σ 1 1) (h23 : ∀ q, q < Q → jGiven τ i q = jGiven σ i q) (h : Pr σ Q i pl c) : Pr τ Q i pl c := by
  unfold Pr at h ⊢
  rw [h1]
  rcases h with ⟨b1, b2, b3⟩ | ⟨b1, b2⟩
  · exact Or.inl ⟨b1, fun q hq => by rw [h23 q hq]; exact b2 q hq, b3⟩
  · exact Or.inr ⟨b1, fun q hq hg => b2 q hq (by rw [h23 q hq] at hg; exact hg)⟩
theorem Prog_dep' {σ τ : Nat → Nat → Int32} {Q i : Nat} (h1 : τ 1 1 = σ 1 1) (h20 : τ 20 i = σ 20 i) (h23 : ∀ q, q < Q → jGiven τ i q = jGiven σ i q) (h : Prog σ Q i) : Prog τ Q i := by
  obtain ⟨pl, a1, a2, a3⟩ := h
  exact ⟨pl, a1, h20.trans a2, by rw [jK_dep h23]; exact Pr_dep h1 h23 a3⟩
theorem Prog_dep {σ τ : Nat → Nat → Int32} (h1 : τ 1 1 = σ 1 1) (h20 : τ 20 = σ 20) (h23 : τ 23 = σ 23) {Q i : Nat} (h : Prog σ Q i) : Prog τ Q i := Prog_dep' h1 (by rw [h20]) (fun q _ => jGiven_dep h23 i q) h
theorem InvS_dep {σ τ : Nat → Nat → Int32} {N P Q n : Nat} (h0 : τ 0 0 = σ 0 0) (h1 : τ 1 0 = σ 1 0) (h3 : τ 3 0 = σ 3 0) (h4 : τ 4 0 = σ 4 0) (h : InvS σ N P Q n) : InvS τ N P Q n := by
  unfold InvS
  rw [h0, h1, h3, h4]
  exact h
theorem InvF_dep {σ τ : Nat → Nat → Int32} {Q : Nat} (h8 : τ 8 = σ 8) (h9 : τ 9 = σ 9) (h1 : τ 1 = σ 1) (h : InvF σ Q) : InvF τ Q := by
  unfold InvF at h ⊢
  rw [h8, h1]
  refine ⟨h.1, fun f a hf ha => ?_, h.2.2⟩
  rw [jWay_dep h9 (congrFun h1 0)]
  exact h.2.1 f a hf ha
theorem InvC_dep {σ τ : Nat → Nat → Int32} {N : Nat} (h11 : τ 11 = σ 11) (h2 : τ 2 = σ 2) (h12 : τ 12 = σ 12) (h19 : τ 19 = σ 19) (h18 : τ 18 = σ 18) (h : InvC σ N) : InvC τ N := by
  unfold InvC at h ⊢
  rw [h11, h2, h12, isS_dep h19, jC_dep h18]
  exact h
theorem InvE_dep {σ τ : Nat → Nat → Int32} {N P Q : Nat} (h1 : τ 1 1 = σ 1 1) (h8 : τ 8 = σ 8) (h13 : τ 13 = σ 13) (h17 : τ 17 = σ 17) (h18 : τ 18 = σ 18) (h19 : τ 19 = σ 19) (h20 : τ 20 = σ 20) (h21 : τ 21 = σ 21) (h22 : τ 22 = σ 22) (h23 : τ 23 = σ 23) (h24 : ∀ i, N ≤ i → τ 24 i = σ 24 i) (h : InvE σ N P Q) : InvE τ N P Q := by
  unfold InvE at h ⊢
  rw [jP_dep h17, h17, h18, h13, h19, h21, h22, h20, h8]
  refine ⟨fun i hi => ?_, fun i hi => ?_, fun i hi hi40 => ?_⟩
  · obtain ⟨a1, a2, a3, a4, a5, a6⟩ := h.1 i hi
    exact ⟨a1, a2, a3, a4, fun q => Prog_dep h1 h20 h23 (a5 q), a6⟩
  · rw [jK_dep (fun q _ => jGiven_dep h23 i q)]
    simp only [jGiven_dep h23]
    exact h.2.1 i hi
  · rw [h24 i hi]
    exact h.2.2 i hi hi40
theorem InvW_dep {σ τ : Nat → Nat → Int32} {N n : Nat} (h11 : τ 11 = σ 11) (h18 : τ 18 = σ 18) (h19 : τ 19 = σ 19) (h24 : τ 24 = σ 24) (h : InvW σ N n) : InvW τ N n := by
  unfold InvW at h ⊢
  rw [h24, isS_dep h19, jC_dep h18, jMargin_dep' h11]
  exact h
theorem InvD_dep {σ τ : Nat → Nat → Int32} {N P : Nat} (h13 : τ 13 = σ 13) (h14 : ∀ p, p < P → 0 ≤ (τ 14 p).toInt ∧ (τ 14 p).toInt ≤ 9) (h15 : τ 15 = σ 15) (h16 : τ 16 = σ 16) (h17 : τ 17 = σ 17) (h19 : τ 19 = σ 19) (h : InvD σ N P) : InvD τ N P := by
  unfold InvD at h ⊢
  rw [h13, h15, h16, jP_dep h17, isS_dep h19, isS_dep h19, h19]
  exact fun p hp => ⟨(h p hp).1, h14 p hp, (h p hp).2.2⟩
/-- rows that no word of Inv speaks of -/
theorem Inv_dep {σ τ : Nat → Nat → Int32} {N P Q n : Nat} (hd : ∀ k, k ≠ 7 → k ≠ 10 → k ≠ 25 → k ≠ 26 → τ k = σ k) (h : Inv σ N P Q n) : Inv τ N P Q n := by
  obtain ⟨a, b, c, d, e, f⟩ := h
  have q : ∀ k, (decide (k ≠ 7) && decide (k ≠ 10) && decide (k ≠ 25) && decide (k ≠ 26)) = true → τ k = σ k := fun k hk => by
    simp only [Bool.and_eq_true, decide_eq_true_eq] at hk
    exact hd k hk.1.1.1 hk.1.1.2 hk.1.2 hk.2
  exact ⟨InvS_dep (congrFun (q 0 rfl) 0) (congrFun (q 1 rfl) 0) (congrFun (q 3 rfl) 0) (congrFun (q 4 rfl) 0) a, InvF_dep (q 8 rfl) (q 9 rfl) (q 1 rfl) b, InvC_dep (q 11 rfl) (q 2 rfl) (q 12 rfl) (q 19 rfl) (q 18 rfl) c,
    InvD_dep (q 13 rfl) (fun p hp => by rw [q 14 rfl]; exact (d p hp).2.1) (q 15 rfl) (q 16 rfl) (q 17 rfl) (q 19 rfl) d,
    InvE_dep (congrFun (q 1 rfl) 1) (q 8 rfl) (q 13 rfl) (q 17 rfl) (q 18 rfl) (q 19 rfl) (q 20 rfl) (q 21 rfl) (q 22 rfl) (q 23 rfl) (fun i _ => by rw [q 24 rfl]) e, InvW_dep (q 11 rfl) (q 18 rfl) (q 19 rfl) (q 24 rfl) f⟩
/-! a DAY -/
theorem jFat_toInt {σ : Nat → Nat → Int32} {p : Nat} {d : Nat} (h : 0 ≤ (σ 14 p).toInt ∧ (σ 14 p).toInt ≤ 9) (hd : d ≤ 9) : (jFat σ p (nI d)).toInt = if (d : Int) < (σ 14 p).toInt then (σ 14 p).toInt - d else 0 := by
  have h1 : (σ 14 p - nI d).toInt = (σ 14 p).toInt - d := by rw [tI_sub (by rw [tI_n (by omega)]; omega) (by rw [tI_n (by omega)]; omega), tI_n (by omega)]
  unfold jFat
  by_cases h2 : (d : Int) < (σ 14 p).toInt
  · rw [if_pos (by rw [tI_lt, h1, tI_n (by omega)]; omega), if_pos h2, h1]
  · rw [if_neg (by rw [tI_lt, h1, tI_n (by omega)]; omega), if_neg h2, tI_n (by omega)]
    rfl
theorem jFat_0 {σ : Nat → Nat → Int32} {p : Nat} (h : 0 ≤ (σ 14 p).toInt ∧ (σ 14 p).toInt ≤ 9) : jFat σ p (nI 0) = σ 14 p := by
  rw [tI_eq, jFat_toInt h (by omega)]
  split <;> omega
theorem jDayF_ne (σ : Nat → Nat → Int32) {a : Nat} (h : a ≠ 14) : ∀ k, jDayF σ k a = σ a
  | 0 => rfl
  | k + 1 => (sW_nk _ _ _ h).trans (jDayF_ne σ h k)
theorem jDayF_14 (σ : Nat → Nat → Int32) : ∀ k i, jDayF σ k 14 i = if i < k then jFat σ i (nI 1) else σ 14 i
  | 0, i => by simp [jDayF]
  | k + 1, i => by
    have h0 := jDayF_14 σ k i
    rw [jDayF]
    by_cases e : i = k
    · subst e
      rw [if_neg (Nat.lt_irrefl _)] at h0
      rw [sW_at, if_pos (Nat.lt_succ_self _)]
      unfold jFat
      rw [h0]
    · rw [sW_ni _ _ _ e, h0]
      simp only [show (i < k + 1) ↔ (i < k) by omega]
theorem jDay_ne (σ : Nat → Nat → Int32) (P : Nat) {a : Nat} (h : a ≠ 14) (h3 : a ≠ 3) : jDay σ P a = σ a := (sW_nk _ _ _ h3).trans (jDayF_ne σ h P)
theorem jDay_30 (σ : Nat → Nat → Int32) (P : Nat) : jDay σ P 3 0 = σ 3 0 := (sW_ni _ _ _ (by decide)).trans (congrFun (jDayF_ne σ (by decide) P) 0)
theorem Inv_day {σ : Nat → Nat → Int32} {N P Q n : Nat} (h : Inv σ N P Q n) : Inv (jDay σ P) N P Q n := by
  obtain ⟨a, b, c, d, e, f⟩ := h
  have q : ∀ k, (decide (k ≠ 14) && decide (k ≠ 3)) = true → jDay σ P k = σ k := fun k hk => by
    simp only [Bool.and_eq_true, decide_eq_true_eq] at hk
    exact jDay_ne σ P hk.1 hk.2
  refine ⟨InvS_dep (congrFun (q 0 rfl) 0) (congrFun (q 1 rfl) 0) (jDay_30 σ P) (congrFun (q 4 rfl) 0) a, InvF_dep (q 8 rfl) (q 9 rfl) (q 1 rfl) b, InvC_dep (q 11 rfl) (q 2 rfl) (q 12 rfl) (q 19 rfl) (q 18 rfl) c,
    InvD_dep (q 13 rfl) (fun p hp => ?_) (q 15 rfl) (q 16 rfl) (q 17 rfl) (q 19 rfl) d,
    InvE_dep (congrFun (q 1 rfl) 1) (q 8 rfl) (q 13 rfl) (q 17 rfl) (q 18 rfl) (q 19 rfl) (q 20 rfl) (q 21 rfl) (q 22 rfl) (q 23 rfl) (fun i _ => by rw [q 24 rfl]) e, InvW_dep (q 11 rfl) (q 18 rfl) (q 19 rfl) (q 24 rfl) f⟩
  rw [show jDay σ P 14 p = jDayF σ P 14 p from congrFun (sW_nk _ _ _ (by decide)) p, jDayF_14, if_pos hp, jFat_toInt (d p hp).2.1 (by omega)]
  have := (d p hp).2.1
  split <;> omega
end PU5
