section PU6
theorem nI_div {x r : Nat} (hx : x < 2147483648) (hr : 0 < r) (hr2 : r < 2147483648) : nI x / nI r = nI (x / r) := by
  have h1 : x / r ≤ x := Nat.div_le_self x r
  rw [tI_eq, tI_div (by rw [tI_n hx]; omega) (by rw [tI_n hr2]; omega), tI_n hx, tI_n hr2, tI_n (by omega)]
  rfl
theorem nI_mod {x r : Nat} (hx : x < 2147483648) (hr : 0 < r) (hr2 : r < 2147483648) : nI x - nI x / nI r * nI r = nI (x % r) := by
  have h1 : x / r * r ≤ x := Nat.div_mul_le_self x r
  rw [nI_div hx hr hr2, nI_mul, nI_sub h1]
  have := Nat.div_add_mod x r
  rw [Nat.mul_comm] at this
  exact congrArg nI (by omega)
/-! one INTERVIEW turns: quotas, panel -/
theorem InvC_turn {σ σ' : Nat → Nat → Int32} {N k s s' : Nat} (h : InvC σ N) (hN : N ≤ 40) (hk : k < N) (hs : s < 4) (hs' : s' < 4) (h1 : σ 19 k = nI s) (h2 : σ' 19 k = nI s') (h3 : ∀ i, i ≠ k → σ' 19 i = σ 19 i) (h18 : σ' 18 = σ 18) (h11 : σ' 11 = σ 11) (hE : σ' 2 = σ 2)
    (h12 : ∀ c, c ≠ jC σ k → σ' 12 c = σ 12 c) (h12k : (σ' 12 (jC σ k)).toInt = (σ 12 (jC σ k)).toInt + (if s' = 1 then 1 else 0) - (if s = 1 then 1 else 0)) : InvC σ' N := by
  obtain ⟨a, b, c0, d⟩ := h
  unfold InvC
  rw [h11, hE, jC_dep h18]
  refine ⟨a, b, c0, fun c hc => nI_of_toInt ?_⟩
  have ht := cN_turn (σ := σ) (σ' := σ') (t := 1) (g := fun i => decide (jC σ i = c)) hk hs hs' (by omega) h1 h2 h3
  have h5 := d c hc
  have h6 := cN_le (fun i => isS σ 1 i && decide (jC σ i = c)) N
  rw [ht]
  by_cases e : c = jC σ k
  · rw [e, h12k, ← e, h5, tI_n (by omega)]
    simp [e]
  · rw [h12 c e, h5, tI_n (by omega)]
    simp [show ¬ jC σ k = c from fun q => e q.symm]
theorem InvD_turn {σ σ' : Nat → Nat → Int32} {N P k s s' : Nat} (h : InvD σ N P) (hN : N ≤ 40) (hk : k < N) (hs : s = 0 ∨ s = 1) (hs' : s' < 4) (h1 : σ 19 k = nI s) (h2 : σ' 19 k = nI s') (h3 : ∀ i, i ≠ k → σ' 19 i = σ 19 i) (h17 : σ' 17 = σ 17) (h13 : σ' 13 = σ 13) (h14 : σ' 14 = σ 14) (h16 : σ' 16 = σ 16)
    (h15 : ∀ p, p ≠ jP σ k → σ' 15 p = σ 15 p) (h15k : (σ' 15 (jP σ k)).toInt = (σ 15 (jP σ k)).toInt + 10 * ((if s' = 1 then 1 else 0) - (if s = 1 then 1 else 0)) + 2 * ((if s' = 2 then 1 else 0) - (if s = 2 then 1 else 0))) : InvD σ' N P := by
  intro p hp
  obtain ⟨a, b, c, d⟩ := h p hp
  rw [h13, h14, h16, jP_dep h17]
  refine ⟨a, b, nI_of_toInt ?_, ?_⟩
  · have t1 := cN_turn (σ := σ) (σ' := σ') (t := 1) (g := fun i => decide (jP σ i = p)) hk (by omega) hs' (by omega) h1 h2 h3
    have t2 := cN_turn (σ := σ) (σ' := σ') (t := 2) (g := fun i => decide (jP σ i = p)) hk (by omega) hs' (by omega) h1 h2 h3
    have l1 := cN_le (fun i => isS σ 1 i && decide (jP σ i = p)) N
    have l2 := cN_le (fun i => isS σ 2 i && decide (jP σ i = p)) N
    rw [Int.natCast_add, Int.natCast_mul, Int.natCast_mul, t1, t2]
    by_cases e : p = jP σ k
    · rw [e, h15k, ← e, c, tI_n (by omega)]
      simp only [e, decide_true, and_true]
      push_cast
      rcases hs with rfl | rfl <;> simp <;> omega
    · rw [h15 p e, c, tI_n (by omega)]
      simp only [show ¬ jP σ k = p from fun q => e q.symm, decide_false, Bool.false_eq_true, and_false, if_false]
      push_cast
      omega
  · rcases d with ⟨d1, d2⟩ | ⟨i, hi, d1, d2, d3⟩
    · exact Or.inl ⟨d1, d2⟩
    · refine Or.inr ⟨i, hi, d1, d2, fun j hj hjp hji => ?_⟩
      by_cases e : j = k
      · subst e
        rcases d3 j hj hjp hji with q | q <;> rw [h1] at q <;> rcases hs with rfl | rfl <;> rw [nI_eq (by omega) (by omega)] at q <;> omega
      · rw [h3 j e]
        exact d3 j hj hjp hji
/-- all INTERVIEWS, but where x stands -/
def InvEx (σ : Nat → Nat → Int32) (N P Q x : Nat) : Prop := (∀ i, i < N → (0 ≤ (σ 17 i).toInt ∧ (σ 17 i).toInt < P) ∧ σ 18 i = σ 13 (jP σ i) ∧ (σ 19 i = nI 0 ∨ σ 19 i = nI 1 ∨ σ 19 i = nI 2 ∨ σ 19 i = nI 3) ∧
    ((σ 21 i).toInt ≤ (σ 22 i).toInt ∧ (σ 22 i).toInt ≤ 99 * (σ 21 i).toInt) ∧ (i ≠ x → (σ 19 i = nI 0 → Prog σ Q i) ∧ (σ 19 i ≠ nI 0 → σ 20 i = -1))) ∧
  (∀ i, i < 40 → σ 21 i = nI (jK σ Q i) ∧ ∀ q, q < 10 → jGiven σ i q = -1 ∨ (i < N ∧ q < Q ∧ 0 ≤ (jGiven σ i q).toInt ∧ (jGiven σ i q).toInt < (σ 8 q).toInt)) ∧
  (∀ i, N ≤ i → i < 40 → σ 22 i = nI 0 ∧ σ 24 i = nI 0)
theorem InvEx_of {σ : Nat → Nat → Int32} {N P Q x : Nat} (h : InvE σ N P Q) : InvEx σ N P Q x := ⟨fun i hi => by
  obtain ⟨a1, a2, a3, a4, a5, a6⟩ := h.1 i hi
  exact ⟨a1, a2, a3, a4, fun _ => ⟨a5, a6⟩⟩, h.2⟩
theorem InvE_of {σ : Nat → Nat → Int32} {N P Q x : Nat} (h : InvEx σ N P Q x) (hx : (σ 19 x = nI 0 → Prog σ Q x) ∧ (σ 19 x ≠ nI 0 → σ 20 x = -1)) : InvE σ N P Q := ⟨fun i hi => by
  obtain ⟨a1, a2, a3, a4, a5⟩ := h.1 i hi
  by_cases e : i = x
  · subst e
    exact ⟨a1, a2, a3, a4, hx.1, hx.2⟩
  · exact ⟨a1, a2, a3, a4, (a5 e).1, (a5 e).2⟩, h.2⟩
/-! an ANSWER is noted -/
theorem jNote_rows (σ : Nat → Nat → Int32) (i pl : Nat) (a t : Int32) : (∀ k, k ≠ 21 → k ≠ 22 → k ≠ 23 → jNote σ i pl a t k = σ k) ∧ (∀ j, jNote σ i pl a t 21 j = if j = i then σ 21 i + nI 1 else σ 21 j) ∧ (∀ j, jNote σ i pl a t 22 j = if j = i then σ 22 i + t else σ 22 j) ∧ ∀ j, jNote σ i pl a t 23 j = if j = i * 10 + pl then a else σ 23 j := by
  refine ⟨fun k h1 h2 h3 => ?_, fun j => ?_, fun j => ?_, fun j => ?_⟩
  · unfold jNote
    rw [sW_nk _ _ _ h1, sW_nk _ _ _ h2, sW_nk _ _ _ h3]
  · by_cases e : j = i
    · subst e
      rw [if_pos rfl]
      exact sW_at _ _ _ _
    · rw [if_neg e]
      unfold jNote
      rw [sW_ni _ _ _ e, sW_nk _ _ _ (by decide), sW_nk _ _ _ (by decide)]
  · unfold jNote
    rw [sW_nk _ _ _ (by decide)]
    by_cases e : j = i
    · subst e
      rw [if_pos rfl]
      exact sW_at _ _ _ _
    · rw [if_neg e, sW_ni _ _ _ e, sW_nk _ _ _ (by decide)]
  · unfold jNote
    rw [sW_nk _ _ _ (by decide), sW_nk _ _ _ (by decide)]
    by_cases e : j = i * 10 + pl
    · subst e
      rw [if_pos rfl]
      exact sW_at _ _ _ _
    · rw [if_neg e, sW_ni _ _ _ e]
theorem jAns1_rows (σ : Nat → Nat → Int32) (i pl a : Nat) (t : Int32) : (∀ k, k ≠ 20 → k ≠ 21 → k ≠ 22 → k ≠ 23 → jAns1 σ i pl a t k = σ k) ∧ (∀ j, jAns1 σ i pl a t 20 j = if j = i then jAnsT σ i pl a t else σ 20 j) ∧ (∀ j, jAns1 σ i pl a t 21 j = if j = i then σ 21 i + nI 1 else σ 21 j) ∧ (∀ j, jAns1 σ i pl a t 22 j = if j = i then σ 22 i + t else σ 22 j) ∧
    ∀ j q, q < 10 → pl < 10 → jGiven (jAns1 σ i pl a t) j q = if j = i ∧ q = pl then nI a else jGiven σ j q := by
  obtain ⟨h0, h1, h2, h3⟩ := jNote_rows σ i pl (nI a) t
  unfold jAns1
  refine ⟨fun k k0 k1 k2 k3 => ?_, fun j => ?_, fun j => ?_, fun j => ?_, fun j q hq hpl => ?_⟩
  · rw [sW_nk _ _ _ k0, h0 k k1 k2 k3]
  · by_cases e : j = i
    · subst e
      rw [if_pos rfl, sW_at]
    · rw [if_neg e, sW_ni _ _ _ e, h0 20 (by decide) (by decide) (by decide)]
  · rw [sW_nk _ _ _ (by decide), h1]
  · rw [sW_nk _ _ _ (by decide), h2]
  · unfold jGiven
    rw [sW_nk _ _ _ (by decide), h3]
    by_cases e : j = i ∧ q = pl
    · obtain ⟨rfl, rfl⟩ := e
      simp
    · rw [if_neg (by omega), if_neg e]
theorem Prog_fresh {σ : Nat → Nat → Int32} {Q i pl c : Nat} (hF : InvF σ Q) (hpl : pl < Q) (h : Pr σ Q i pl c) : jGiven σ i pl = -1 := by
  have hr := hF.2.2
  rcases h with ⟨h1, h2, h3⟩ | ⟨h1, h2⟩
  · have hc := clamp_toInt hr.1
    generalize (σ 1 1).toNatClampNeg = r at hc h2 h3
    refine Classical.byContradiction fun hne => ?_
    obtain ⟨j, hj, he⟩ := (h2 pl hpl).mp hne
    rcases (show r = 1 ∨ r = 2 ∨ r = 3 by omega) with rfl | rfl | rfl <;> omega
  · refine Classical.byContradiction fun hne => ?_
    have := h2 pl hpl hne
    omega
theorem jAnsT_eq {σ : Nat → Nat → Int32} {N Q i pl a c : Nat} (t : Int32) (hN : N ≤ 40) (hQ : Q ≤ 10) (hF : InvF σ Q) (hQz : σ 1 0 = nI Q) (hi : i < N) (hpl : pl < Q) (ha : a < 5) (h21 : σ 21 i = nI c) (hc : c ≤ 10) :
    jAnsT σ i pl a t = if (c : Int) + 1 < (σ 1 1).toInt then nI ((i + (c + 1)) % (σ 1 1).toNatClampNeg) else if (c : Int) + 1 = (σ 1 1).toInt then (if (σ 1 1).toInt < Q then σ 1 1 else -1) else jWay σ pl a := by
  obtain ⟨h0, h1, h2, h3⟩ := jNote_rows σ i pl (nI a) t
  have hr := hF.2.2
  have hcl := clamp_toInt hr.1
  have e1 : jNote σ i pl (nI a) t 1 = σ 1 := h0 1 (by decide) (by decide) (by decide)
  have e21 : jNote σ i pl (nI a) t 21 i = nI (c + 1) := by rw [h1, if_pos rfl, h21, nI_add]
  have ew : jWay (jNote σ i pl (nI a) t) pl a = jWay σ pl a := jWay_dep (h0 9 (by decide) (by decide) (by decide)) (congrFun e1 0) pl a
  have er : σ 1 1 = nI (σ 1 1).toNatClampNeg := nI_of_toInt hcl.symm
  unfold jAnsT jNext
  rw [e21, e1, ew, nI_add]
  by_cases q1 : (c : Int) + 1 < (σ 1 1).toInt
  · rw [if_pos q1, if_pos ⟨by rw [tI_lt, tI_0]; omega, by rw [tI_lt, tI_n (by omega)]; push_cast; omega⟩]
    generalize hrr : (σ 1 1).toNatClampNeg = r at hcl er ⊢
    rw [er, nI_mod (by omega) (by omega) (by omega)]
  · rw [if_neg q1, if_neg (by rintro ⟨-, q⟩; rw [tI_lt, tI_n (by omega)] at q; push_cast at q; omega)]
    by_cases q2 : (c : Int) + 1 = (σ 1 1).toInt
    · rw [if_pos q2, if_pos ⟨by rw [tI_lt, tI_0]; omega, by rw [tI_eq, tI_n (by omega)]; push_cast; omega⟩]
      unfold jEnd
      rw [e1, hQz]
      have : (σ 1 1 < nI Q) ↔ (σ 1 1).toInt < Q := by rw [tI_lt, tI_n (by omega)]
      simp only [this]
    · rw [if_neg q2, if_neg (by rintro ⟨-, q⟩; rw [tI_eq, tI_n (by omega)] at q; push_cast at q; omega)]
end PU6
