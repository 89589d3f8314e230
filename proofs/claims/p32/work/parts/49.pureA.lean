section PUA
/-! to CLEAN -/
theorem jDirty_dep {σ τ : Nat → Nat → Int32} {i : Nat} (h19 : τ 19 i = σ 19 i) (h21 : τ 21 = σ 21) (h22 : τ 22 = σ 22) (h23 : τ 23 = σ 23) : jDirty τ i = jDirty σ i := by
  have hF : ∀ k, jLF τ i k = jLF σ i k := by
    intro k
    induction k with
    | zero => rfl
    | succ k ih => rw [jLF, jLF, ih, jGiven_dep h23]
  have hO : ∀ k, jLOk τ i k = jLOk σ i k := by
    intro k
    induction k with
    | zero => rfl
    | succ k ih => rw [jLOk, jLOk, ih, hF, jGiven_dep h23]
  unfold jDirty jFast jLine
  rw [h19, h21, h22, hO]
theorem jDirty_1 {σ : Nat → Nat → Int32} {i : Nat} (h : jDirty σ i = true) : σ 19 i = nI 1 := by
  unfold jDirty at h
  simp only [Bool.and_eq_true, decide_eq_true_eq] at h
  exact h.1
theorem jCl1_rows (σ : Nat → Nat → Int32) (k : Nat) : (∀ r, r ≠ 19 → r ≠ 12 → r ≠ 15 → jCl1 σ k r = σ r) ∧ (∀ j, jCl1 σ k 19 j = if j = k then nI 3 else σ 19 j) ∧ (∀ j, jCl1 σ k 12 j = if j = jC σ k then σ 12 (jC σ k) + (-1) else σ 12 j) := by
  obtain ⟨a, b, c, -⟩ := turn_rows σ k (jC σ k) (jP σ k) (nI 3) (σ 12 (jC σ k) + (-1)) (σ 15 (jP σ k) + (-10))
  exact ⟨a, b, c⟩
/-- who is cleaned among the first k -/
theorem jCl_19 (σ : Nat → Nat → Int32) : ∀ k i, jCl σ k 19 i = if i < k ∧ jDirty σ i = true then nI 3 else σ 19 i
  | 0, i => by simp [jCl]
  | k + 1, i => by
    have ih := jCl_19 σ k
    have hd : jDirty (jCl σ k) k = jDirty σ k := jDirty_dep (by rw [ih k, if_neg (fun q => Nat.lt_irrefl _ q.1)]) (jCl_ne σ (by decide) (by decide) (by decide) k) (jCl_ne σ (by decide) (by decide) (by decide) k) (jCl_ne σ (by decide) (by decide) (by decide) k)
    rw [jCl, hd]
    by_cases e : i = k
    · subst e
      split
      · rename_i h
        rw [(jCl1_rows _ i).2.1, if_pos rfl, if_pos ⟨by omega, h⟩]
      · rename_i h
        rw [ih, if_neg (fun q => h q.2), if_neg (fun q => h q.2)]
    · have hk : (i < k + 1 ∧ jDirty σ i = true) ↔ (i < k ∧ jDirty σ i = true) := by
        constructor
        · rintro ⟨h1, h2⟩
          exact ⟨by omega, h2⟩
        · rintro ⟨h1, h2⟩
          exact ⟨by omega, h2⟩
      simp only [hk]
      split
      · rw [(jCl1_rows _ k).2.1, if_neg e, ih]
      · exact ih i
theorem jCl_dirty (σ : Nat → Nat → Int32) {k i : Nat} (h : k ≤ i) : jDirty (jCl σ k) i = jDirty σ i := jDirty_dep (by rw [jCl_19, if_neg (fun q => by omega)]) (jCl_ne σ (by decide) (by decide) (by decide) k) (jCl_ne σ (by decide) (by decide) (by decide) k) (jCl_ne σ (by decide) (by decide) (by decide) k)
theorem jClN_cN (σ : Nat → Nat → Int32) : ∀ k, jClN σ k = nI (cN (jDirty σ) k)
  | 0 => rfl
  | k + 1 => by
    rw [jClN, cN, jCl_dirty σ (Nat.le_refl k), jClN_cN σ k]
    split
    · exact nI_inc _
    · rfl
theorem clean_ok {σ : Nat → Nat → Int32} {N P Q n : Nat} (h : Inv σ N P Q n) : ∀ k, k ≤ N → InvS (jCl σ k) N P Q n ∧ InvF (jCl σ k) Q ∧ InvC (jCl σ k) N ∧ InvD (jCl σ k) N P ∧ InvE (jCl σ k) N P Q
  | 0, _ => ⟨h.1, h.2.1, h.2.2.1, h.2.2.2.1, h.2.2.2.2.1⟩
  | k + 1, hk => by
    obtain ⟨a, b, c, d, e⟩ := clean_ok h k (by omega)
    rw [jCl]
    split
    · rename_i hd
      have h1 := jDirty_1 hd
      refine turn_ok (s := 1) (s' := 3) (δ := -1) (ε := -10) a b c d (InvEx_of e) (by omega) (Or.inr rfl) (Or.inr (Or.inr rfl)) h1 ((e.1 k (by omega)).2.2.2.2.2 (by rw [h1]; decide)) (by decide) (by decide) (jCl1 (jCl σ k) k) rfl
    · exact ⟨a, b, c, d, e⟩
theorem clean_inv {σ : Nat → Nat → Int32} {N P Q n : Nat} (h : Inv σ N P Q n) : Inv (jWeigh (jCl σ N) 24 N n) N P Q n := by
  obtain ⟨a, b, c, d, e⟩ := clean_ok h N (Nat.le_refl N)
  exact weigh_ok a b c d e
/-- what would be cleaned of a CELL -/
def dC (σ : Nat → Nat → Int32) (N c : Nat) : Nat := cN (fun i => decide (jC σ i = c) && jDirty σ i) N
theorem jClnC_eq {σ : Nat → Nat → Int32} {N P Q n c : Nat} (h : Inv σ N P Q n) (hc : c < 6) : jClnC σ N c = nI (dC σ N c) := by
  unfold jClnC dC
  rw [jCnt_cN]
  refine congrArg nI (cN_congr N (fun i hi => ?_))
  have h1 := Inv_hce h.2.2.2.2.1 h.2.2.2.1 h.1.2.2.2.1 i hi
  have h2 : (σ 18 i = nI c) ↔ (jC σ i = c) := by
    unfold jC
    rw [h1.1, nI_eq (by have := h1.2; omega) (by omega), ← h1.1]
  simp only [h2]
theorem dC_le (σ : Nat → Nat → Int32) (N c : Nat) : dC σ N c ≤ N := cN_le _ N
theorem sum6 (f : Nat → Int) : sZ f 6 = f 0 + f 1 + f 2 + f 3 + f 4 + f 5 := by simp [sZ]
/-- each is of one CELL -/
theorem cN_cells {σ : Nat → Nat → Int32} {N : Nat} (p : Nat → Bool) (h : ∀ i, i < N → jC σ i < 6) : sZ (fun c => (cN (fun i => decide (jC σ i = c) && p i) N : Int)) 6 = cN p N := by
  rw [cN_sZ, ← sZ_congr (f := fun c => sZ (fun i => if (decide (jC σ i = c) && p i) = true then 1 else 0) N) 6 (fun c _ => (cN_sZ _ N).symm), sZ_swap]
  refine sZ_congr N (fun i hi => ?_)
  cases hp : p i
  · simp only [Bool.and_false, Bool.false_eq_true, if_false]
    exact sZ_const0 6 (fun _ _ => rfl)
  · simp only [Bool.and_true, decide_eq_true_eq, if_true]
    exact sZ_pick 1 (h i hi)
theorem jC_lt {σ : Nat → Nat → Int32} {N P Q n : Nat} (h : Inv σ N P Q n) : ∀ i, i < N → jC σ i < 6 := fun i hi => (Inv_hce h.2.2.2.2.1 h.2.2.2.1 h.1.2.2.2.1 i hi).2
theorem dC_sum {σ : Nat → Nat → Int32} {N P Q n : Nat} (h : Inv σ N P Q n) : sZ (fun c => (dC σ N c : Int)) 6 = cN (jDirty σ) N := cN_cells (jDirty σ) (jC_lt h)
theorem jClnAll_eq {σ : Nat → Nat → Int32} {N P Q n : Nat} (h : Inv σ N P Q n) : jClnAll σ N = nI (cN (jDirty σ) N) := by
  have hN := h.1.2.1
  have hD := cN_le (jDirty σ) N
  refine nI_of_toInt ?_
  unfold jClnAll
  rw [jSum_sZ (a := 0) (b := 40) (by omega) (by omega) 6 (fun c hc => by
    rw [jClnC_eq h hc, tI_n (by have := dC_le σ N c; omega)]
    have := dC_le σ N c
    omega) (by omega) (by omega), ← dC_sum h]
  exact sZ_congr 6 (fun c hc => by rw [jClnC_eq h hc, tI_n (by have := dC_le σ N c; omega)])
/-- OPEN, in integers -/
theorem jOpenW_iff {σ : Nat → Nat → Int32} {N c : Nat} {f fa : Int32} {a b : Nat} (h : InvC σ N) (hN : N ≤ 40) (hc : c < 6) (hf : f.toInt = a) (ha : a ≤ 40) (hfa : fa.toInt = b) (hb : b ≤ 40) : jOpenW σ c f fa = true ↔ ((σ 12 c).toInt - a < (σ 11 c).toInt ∨ ((σ 12 c).toInt - a < (σ 11 c).toInt + (σ 2 0).toInt ∧ sZ (fun c => (σ 12 c).toInt) 6 - b < sZ (fun c => (σ 11 c).toInt) 6)) := by
  have h12 := cF_le h hN hc
  have h11 := h.1 c hc
  have h2 := h.2.1
  have h22 := h.2.2.1
  have s12 : (jSum (σ 12) 6).toInt = sZ (fun c => (σ 12 c).toInt) 6 := jSum_sZ (a := 0) (b := 40) (by omega) (by omega) 6 (fun i hi => cF_le h hN hi) (by omega) (by omega)
  have s11 : (jSum (σ 11) 6).toInt = sZ (fun c => (σ 11 c).toInt) 6 := jSum_sZ (a := 0) (b := 9) (by omega) (by omega) 6 (fun i hi => h.1 i hi) (by omega) (by omega)
  have b12 := sZ_bound (f := fun c => (σ 12 c).toInt) (a := 0) (b := 40) 6 (fun i hi => cF_le h hN hi)
  have b11 := sZ_bound (f := fun c => (σ 11 c).toInt) (a := 0) (b := 9) 6 (fun i hi => h.1 i hi)
  unfold jOpenW
  simp only [Bool.or_eq_true, Bool.and_eq_true, decide_eq_true_eq, tI_lt]
  rw [tI_sub (by omega) (by omega), tI_add (by omega) (by omega), tI_sub (by rw [s12]; omega) (by rw [s12]; omega), hf, hfa, s12, s11]
theorem cN6_le {p q : Nat → Bool} (h : ∀ c, c < 6 → p c = true → q c = true) : cN p 6 ≤ cN q 6 := cN_mono 6 h
/-- the CELLS that are OPEN behind a cleaning: those that are, and those that would be -/
theorem clean_open {σ : Nat → Nat → Int32} {N P Q n : Nat} (h : Inv σ N P Q n) : ∀ c, c < 6 → jOpen (jWeigh (jCl σ N) 24 N n) c = (jOpen σ c || (!jOpen σ c && jOpenW σ c (jClnC σ N c) (jClnAll σ N))) := by
  have hN := h.1.2.1
  obtain ⟨-, -, cC, -, -⟩ := clean_ok h N (Nat.le_refl N)
  have e12 : ∀ c, c < 6 → (jCl σ N 12 c).toInt = (σ 12 c).toInt - dC σ N c := by
    intro c hc
    have hsplit : cN (fun i => isS σ 1 i && decide (jC σ i = c)) N = cN (fun i => isS (jCl σ N) 1 i && decide (jC (jCl σ N) i = c)) N + dC σ N c := by
      unfold dC
      rw [← cN_or N (fun i hi => ?_)]
      · refine cN_congr N (fun i hi => ?_)
        rw [jC_dep (jCl_ne σ (by decide) (by decide) (by decide) N)]
        unfold isS
        rw [jCl_19]
        cases hd : jDirty σ i
        · simp [hd]
        · rw [jDirty_1 hd]
          simp [hi]
      · rintro ⟨q1, q2⟩
        unfold isS at q1
        simp only [Bool.and_eq_true, decide_eq_true_eq] at q1 q2
        rw [jCl_19, if_pos ⟨hi, q2.2⟩] at q1
        exact absurd q1.1 (by decide)
    have l1 := cN_le (fun i => isS (jCl σ N) 1 i && decide (jC (jCl σ N) i = c)) N
    have l2 := cN_le (fun i => isS σ 1 i && decide (jC σ i = c)) N
    rw [cC.2.2.2 c hc, h.2.2.1.2.2.2 c hc, tI_n (by omega), tI_n (by omega), hsplit]
    omega
  have hall := jClnAll_eq h
  have hDle := cN_le (jDirty σ) N
  have t11 : jCl σ N 11 = σ 11 := jCl_ne σ (by decide) (by decide) (by decide) N
  have t2 : jCl σ N 2 = σ 2 := jCl_ne σ (by decide) (by decide) (by decide) N
  have hsum : sZ (fun c => (jCl σ N 12 c).toInt) 6 = sZ (fun c => (σ 12 c).toInt) 6 - cN (jDirty σ) N := by
    rw [← dC_sum h, sZ_congr (g := fun c => (σ 12 c).toInt - dC σ N c) 6 (fun c hc => e12 c hc)]
    simp only [sum6]
    omega
  intro c hc
  have w : jOpen (jWeigh (jCl σ N) 24 N n) c = jOpen (jCl σ N) c := by
    unfold jOpen jOpenW
    rw [jWeigh_ne _ N n (by decide), jWeigh_ne _ N n (by decide), jWeigh_ne _ N n (by decide)]
  have o1 := jOpenW_iff (f := nI 0) (fa := nI 0) (a := 0) (b := 0) cC hN hc (by decide) (by omega) (by decide) (by omega)
  have o2 := jOpenW_iff (f := nI 0) (fa := nI 0) (a := 0) (b := 0) h.2.2.1 hN hc (by decide) (by omega) (by decide) (by omega)
  have o3 := jOpenW_iff (f := jClnC σ N c) (fa := jClnAll σ N) (a := dC σ N c) (b := cN (jDirty σ) N) h.2.2.1 hN hc (by rw [jClnC_eq h hc, tI_n (by have := dC_le σ N c; omega)]) (by have := dC_le σ N c; omega) (by rw [hall, tI_n (by omega)]) (by omega)
  rw [t11, t2, hsum, e12 c hc] at o1
  rw [w, Bool.eq_iff_iff, Bool.or_eq_true, Bool.and_eq_true, Bool.not_eq_true']
  unfold jOpen
  rw [o1, o3]
  rw [Bool.eq_false_iff, ne_eq, o2]
  have := dC_le σ N c
  omega
/-- what 'cleaned' answers -/
theorem cleaned_eq {σ : Nat → Nat → Int32} {N P Q n : Nat} (h : Inv σ N P Q n) : ∃ o : Nat, o ≤ 6 ∧ jCleaned σ N = nI (cN (jDirty σ) N + 100 * o) ∧ jCnt (jOpen (jWeigh (jCl σ N) 24 N n)) 6 = nI (cN (jOpen σ) 6 + o) ∧ jCnt (jOpen σ) 6 = nI (cN (jOpen σ) 6) := by
  refine ⟨cN (fun c => !jOpen σ c && jOpenW σ c (jClnC σ N c) (jClnAll σ N)) 6, cN_le _ 6, ?_, ?_, jCnt_cN _ 6⟩
  · unfold jCleaned
    rw [jClnAll_eq h, jCnt_cN, nI_mul, nI_add]
  · rw [jCnt_cN, cN_congr (q := fun c => jOpen σ c || (!jOpen σ c && jOpenW σ c (jClnC σ N c) (jClnAll σ N))) 6 (clean_open h), cN_or 6 (fun c _ => by
      cases jOpen σ c <;> simp)]
end PUA
