section LWA
/-! what the property's own words need -/
theorem nI_inj {a b : Nat} (h : nI a = nI b) (ha : a < 2147483648) (hb : b < 2147483648) : a = b := by
  have h1 := congrArg Int32.toInt h
  rw [tI_n ha, tI_n hb] at h1
  omega
theorem nI_ne_m1 {a : Nat} (ha : a < 2147483648) : nI a ≠ -1 := fun h => by
  have h1 := congrArg Int32.toInt h
  rw [tI_n ha, tI_m1] at h1
  omega
/-- a number out of a word of the script, under n -/
def jBel (v : Int32) (n : Nat) : Nat := (v &&& 2147483647).toNatClampNeg % n
theorem jBel_lt (v : Int32) {n : Nat} (h : 0 < n) : jBel v n < n := Nat.mod_lt _ h
theorem and_pos (v : Int32) : 0 ≤ (v &&& 2147483647).toInt := by
  have h1 : (v &&& 2147483647).toBitVec.msb = false := by
    rw [Int32.toBitVec_and, BitVec.msb_and, show (2147483647 : Int32).toBitVec.msb = false by decide, Bool.and_false]
  have h2 := BitVec.toInt_eq_toNat_of_msb h1
  show 0 ≤ (v &&& 2147483647).toBitVec.toInt
  rw [h2]
  omega
theorem jBel_eq (v : Int32) {n : Nat} (h0 : 0 < n) (hn : n < 2147483648) : (v &&& 2147483647) - (v &&& 2147483647) / nI n * nI n = nI (jBel v n) := by
  have h1 := and_pos v
  have h2 := clamp_toInt h1
  have h3 : (v &&& 2147483647).toInt < 2147483648 := by have := (v &&& 2147483647).toInt_lt; omega
  have h4 : (v &&& 2147483647) = nI (v &&& 2147483647).toNatClampNeg := nI_of_toInt h2.symm
  have h5 := nI_mod (x := (v &&& 2147483647).toNatClampNeg) (r := n) (by omega) h0 hn
  rw [← h4] at h5
  exact h5
theorem states_sum {σ : Nat → Nat → Int32} {N P Q n : Nat} (h : Inv σ N P Q n) : ∀ k, k ≤ N → cN (isS σ 0) k + cN (isS σ 1) k + cN (isS σ 2) k + cN (isS σ 3) k = k
  | 0, _ => rfl
  | k + 1, hk => by
    have ih := states_sum h k (by omega)
    simp only [cN]
    rcases (h.2.2.2.2.1.1 k (by omega)).2.2.1 with e | e | e | e
    · rw [isS_eq e, isS_ne (t := 1) (by decide) (by decide) e (by decide), isS_ne (t := 2) (by decide) (by decide) e (by decide), isS_ne (t := 3) (by decide) (by decide) e (by decide)]
      simp
      omega
    · rw [isS_eq e, isS_ne (t := 0) (by decide) (by decide) e (by decide), isS_ne (t := 2) (by decide) (by decide) e (by decide), isS_ne (t := 3) (by decide) (by decide) e (by decide)]
      simp
      omega
    · rw [isS_eq e, isS_ne (t := 0) (by decide) (by decide) e (by decide), isS_ne (t := 1) (by decide) (by decide) e (by decide), isS_ne (t := 3) (by decide) (by decide) e (by decide)]
      simp
      omega
    · rw [isS_eq e, isS_ne (t := 0) (by decide) (by decide) e (by decide), isS_ne (t := 1) (by decide) (by decide) e (by decide), isS_ne (t := 2) (by decide) (by decide) e (by decide)]
      simp
      omega
/-- the INTERVIEWS of each state together are all -/
theorem four_sum {σ : Nat → Nat → Int32} {N P Q n : Nat} (h : Inv σ N P Q n) : jMany σ N P 2 + jMany σ N P 3 + jMany σ N P 4 + jMany σ N P 5 = nI N := by
  show jCnt (isS σ 0) N + jCnt (isS σ 1) N + jCnt (isS σ 2) N + jCnt (isS σ 3) N = nI N
  rw [jCnt_cN, jCnt_cN, jCnt_cN, jCnt_cN, nI_add, nI_add, nI_add, states_sum h N (Nat.le_refl N)]
/-- the last RUNNING one among the first k -/
def jRun (σ : Nat → Nat → Int32) : Nat → Int32
  | 0 => -1
  | k + 1 => if σ 19 k = 0 then nI k else jRun σ k
theorem jRun_or (σ : Nat → Nat → Int32) : ∀ k, jRun σ k = -1 ∨ ∃ r, r < k ∧ jRun σ k = nI r ∧ σ 19 r = nI 0
  | 0 => Or.inl rfl
  | k + 1 => by
    rw [jRun]
    by_cases e : σ 19 k = 0
    · rw [if_pos e]
      exact Or.inr ⟨k, by omega, rfl, e⟩
    · rw [if_neg e]
      rcases jRun_or σ k with h | ⟨r, h1, h2, h3⟩
      · exact Or.inl h
      · exact Or.inr ⟨r, by omega, h2, h3⟩
theorem jPc_lt {σ : Nat → Nat → Int32} {N P Q n p : Nat} (h : Inv σ N P Q n) (hp : p < P) : jPc σ p < 6 := (Inv_hpc h.2.2.2.1 p hp).2
theorem jLack_b {σ : Nat → Nat → Int32} {N P Q n c : Nat} (h : Inv σ N P Q n) (hc : c < 6) : -40 ≤ (jLack σ c).toInt ∧ (jLack σ c).toInt ≤ 9 := by
  have h1 := cF_le h.2.2.1 h.1.2.1 hc
  have h2 := h.2.2.1.1 c hc
  unfold jLack
  rw [tI_sub (by omega) (by omega)]
  omega
theorem jCan_and {σ : Nat → Nat → Int32} {p : Nat} {d : Int32} (h : jCan σ p d = true) : jTaken σ (σ 16 p) = false ∧ ¬ nI 4 < jFat σ p d ∧ jOpen σ (jPc σ p) = true := by
  unfold jCan at h
  simpa using h
/-- what 'next' promises -/
theorem next_spec {σ : Nat → Nat → Int32} {N P Q n j : Nat} (h : Inv σ N P Q n) (hx : jNxt σ (nI 0) P = nI j) (hj : j < P) : jCan σ j (nI 0) = true ∧ ∀ p, p < P → jCan σ p (nI 0) = true → ¬ 0 < jLack σ (jPc σ p) - jLack σ (jPc σ j) ∧ (jLack σ (jPc σ p) - jLack σ (jPc σ j) = 0 → ¬ jFat σ p (nI 0) < jFat σ j (nI 0) ∧ (jFat σ p (nI 0) = jFat σ j (nI 0) → ¬ p < j)) := by
  have hP := h.1.2.2.2.1
  rcases jNxt_spec σ (nI 0) P hP with ⟨h1, h2⟩ | ⟨i, hi, h1, h2, h3⟩
  · rw [hx] at h1
    exact absurd h1 (nI_ne_m1 (by omega))
  · obtain rfl : j = i := nI_inj (hx.symm.trans h1) (by omega) (by omega)
    refine ⟨h2, fun p hp hc => ?_⟩
    obtain ⟨ha, hb⟩ := h3 p hp hc
    have b1 := jLack_b h (jPc_lt h hp)
    have b2 := jLack_b h (jPc_lt h hj)
    have hs : (jLack σ (jPc σ p) - jLack σ (jPc σ j)).toInt = (jLack σ (jPc σ p)).toInt - (jLack σ (jPc σ j)).toInt := tI_sub (by omega) (by omega)
    refine ⟨fun q => ha (Or.inl (tI_lt.mpr ?_)), fun q => ⟨fun r => ha (Or.inr ⟨tI_eq.mpr ?_, r⟩), fun r hpj => ?_⟩⟩
    · have := tI_lt.mp q
      rw [hs, tI_0] at this
      omega
    · have := tI_eq.mp q
      rw [hs, tI_0] at this
      omega
    · have := tI_eq.mp q
      rw [hs, tI_0] at this
      rcases hb hpj with z | ⟨z, z2⟩
      · have := tI_lt.mp z
        omega
      · rw [r] at z2
        exact Int32.lt_irrefl z2
/-! fairness -/
theorem cN_one {p : Nat → Bool} : ∀ n, (∀ i k, i < n → k < n → p i = true → p k = true → i = k) → cN p n ≤ 1
  | 0, _ => Nat.zero_le _
  | n + 1, h => by
    have ih := cN_one n (fun i k hi hk => h i k (by omega) (by omega))
    rw [cN]
    by_cases e : p n = true
    · rw [if_pos e, cN_0 n (fun i hi => by
        cases hpi : p i
        · rfl
        · have := h i n (by omega) (by omega) hpi e
          omega)]
      omega
    · rw [if_neg e]
      exact ih
theorem cN_ex {p : Nat → Bool} : ∀ n, 0 < cN p n → ∃ i, i < n ∧ p i = true
  | 0, h => absurd h (by simp [cN])
  | n + 1, h => by
    by_cases e : p n = true
    · exact ⟨n, by omega, e⟩
    · rw [cN, if_neg e] at h
      obtain ⟨i, h1, h2⟩ := cN_ex n h
      exact ⟨i, by omega, h2⟩
/-- in how many of the first k INTERVIEWS a PERSON is -/
def onB (σ : Nat → Nat → Int32) (p i : Nat) : Bool := (isS σ 0 i || isS σ 1 i) && decide (jP σ i = p)
theorem onB_iff {σ : Nat → Nat → Int32} {p i : Nat} : onB σ p i = true ↔ (σ 19 i = nI 0 ∨ σ 19 i = nI 1) ∧ jP σ i = p := by
  unfold onB isS
  simp
theorem on_le {σ : Nat → Nat → Int32} {N P Q n p : Nat} (h : Inv σ N P Q n) (hp : p < P) : cN (onB σ p) N ≤ 1 :=
  cN_one N (fun i k hi hk h1 h2 => (jTaken_iff h hp).2 i k hi hk (onB_iff.mp h1).2 (onB_iff.mp h2).2 (onB_iff.mp h1).1 (onB_iff.mp h2).1)
theorem on_can {σ : Nat → Nat → Int32} {N P Q n p : Nat} (h : Inv σ N P Q n) (hp : p < P) (ho : cN (onB σ p) N = 1) : jCan σ p (nI 0) = false := by
  obtain ⟨i, hi, h1⟩ := cN_ex N (by omega : 0 < cN (onB σ p) N)
  have h2 := (jTaken_iff h hp).1.mpr ⟨i, hi, (onB_iff.mp h1).2, (onB_iff.mp h1).1⟩
  unfold jCan
  rw [h2]
  rfl
theorem state_lt2 {σ : Nat → Nat → Int32} {N P Q n k : Nat} (h : Inv σ N P Q n) (hk : k < N) : (σ 19 k < nI 2) ↔ (σ 19 k = nI 0 ∨ σ 19 k = nI 1) := by
  rcases (h.2.2.2.2.1.1 k hk).2.2.1 with e | e | e | e <;> rw [e] <;> decide
theorem not_done {σ : Nat → Nat → Int32} {N P Q n k : Nat} (h : Inv σ N P Q n) (hk : k < N) (hs : ¬ σ 19 k = nI 1) : σ 24 k + bI (jDirty σ k) = 0 := by
  have h1 := (InvW_ok h.2.2.2.2.2 h.1.2.1 h.2.2.1.1 k hk).2 hs
  have h2 : jDirty σ k = false := by
    cases e : jDirty σ k
    · rfl
    · exact absurd (jDirty_1 e) hs
  rw [h1, h2]
  rfl
theorem given_b {σ : Nat → Nat → Int32} {N P Q n k q : Nat} (h : Inv σ N P Q n) (hk : k < N) (hq : q < Q) : (¬ jGiven σ k q < 0) ↔ jGiven σ k q ≠ -1 := by
  have hN := h.1.2.1
  have hQ := h.1.2.2.2.2.2.1
  rcases (h.2.2.2.2.1.2.1 k (by omega)).2 q (by omega) with e | e
  · rw [e]
    decide
  · constructor
    · intro _ e2
      rw [e2, tI_m1] at e
      omega
    · intro _ e2
      have := tI_lt.mp e2
      rw [tI_0] at this
      omega
theorem closed_ask {σ : Nat → Nat → Int32} {P c : Nat} (hc : c < 6) (h : jOpen σ c = false) : jToAsk σ P (nI c) = nI 0 := by
  unfold jToAsk
  rw [jCnt_cN, cN_0 P (fun p _ => ?_)]
  cases e : decide (σ 13 p = nI c)
  · rfl
  · have e2 : jPc σ p = c := by
      unfold jPc
      rw [of_decide_eq_true e, nI_clamp (by omega)]
    unfold jCan
    rw [e2, h]
    simp
theorem few_open {σ : Nat → Nat → Int32} {c : Nat} (h : σ 12 c < σ 11 c) : jOpen σ c = true := by
  unfold jOpen jOpenW
  rw [show nI 0 = 0 from rfl, Int32.sub_zero, decide_eq_true h]
  rfl
theorem filled_all {σ : Nat → Nat → Int32} {N P Q n : Nat} (h : Inv σ N P Q n) : jSum (σ 12) 6 = nI (cN (isS σ 1) N) := by
  refine nI_of_toInt ?_
  rw [jSum_sZ (a := 0) (b := 40) (by omega) (by omega) 6 (fun c hc => cF_le h.2.2.1 h.1.2.1 hc) (by omega) (by omega), ← cN_cells (isS σ 1) (jC_lt h)]
  refine sZ_congr 6 (fun c hc => ?_)
  have h1 := cN_le (fun i => isS σ 1 i && decide (jC σ i = c)) N
  have h2 := h.1.2.1
  rw [h.2.2.1.2.2.2 c hc, tI_n (by omega)]
  exact congrArg _ (cN_congr N (fun i _ => Bool.and_comm _ _))
theorem cN_people {σ : Nat → Nat → Int32} {N P : Nat} (p : Nat → Bool) (h : ∀ i, i < N → jP σ i < P) : sZ (fun c => (cN (fun i => p i && decide (jP σ i = c)) N : Int)) P = cN p N := by
  rw [cN_sZ, ← sZ_congr (f := fun c => sZ (fun i => if (p i && decide (jP σ i = c)) = true then 1 else 0) N) P (fun c _ => (cN_sZ _ N).symm), sZ_swap]
  refine sZ_congr N (fun i hi => ?_)
  cases hp : p i
  · simp only [Bool.false_and, Bool.false_eq_true, if_false]
    exact sZ_const0 P (fun _ _ => rfl)
  · simp only [Bool.true_and, decide_eq_true_eq, if_true]
    exact sZ_pick 1 (h i hi)
theorem sZ_mul (k : Int) (f : Nat → Int) : ∀ n, sZ (fun i => k * f i) n = k * sZ f n
  | 0 => by simp [sZ]
  | n + 1 => by rw [sZ, sZ, sZ_mul k f n, Int.mul_add]
/-- the POINTS together -/
theorem points_all {σ : Nat → Nat → Int32} {N P Q n : Nat} (h : Inv σ N P Q n) : jSum (σ 15) P = nI 10 * nI (cN (isS σ 1) N) + nI 2 * jMany σ N P 4 := by
  have hN := h.1.2.1
  have hP := h.1.2.2.2.1
  have hp : ∀ i, i < N → jP σ i < P := fun i hi => (Inv_jP h.2.2.2.2.1 hP hi).1
  rw [show jMany σ N P 4 = jCnt (isS σ 2) N from rfl, jCnt_cN, nI_mul, nI_mul, nI_add]
  refine nI_of_toInt ?_
  rw [jSum_sZ (a := 0) (b := 480) (by omega) (by omega) P (fun p hp => cP_le h.2.2.2.1 hN hp) (by omega) (by omega)]
  have e1 := cN_people (isS σ 1) hp
  have e2 := cN_people (isS σ 2) hp
  have e3 : sZ (fun p => (σ 15 p).toInt) P = sZ (fun p => 10 * (cN (fun i => isS σ 1 i && decide (jP σ i = p)) N : Int) + 2 * (cN (fun i => isS σ 2 i && decide (jP σ i = p)) N : Int)) P := sZ_congr P (fun p hp => by
    have h1 := cN_le (fun i => isS σ 1 i && decide (jP σ i = p)) N
    have h2 := cN_le (fun i => isS σ 2 i && decide (jP σ i = p)) N
    rw [(h.2.2.2.1 p hp).2.2.1, tI_n (by omega)]
    omega)
  rw [e3, sZ_add (fun p => 10 * (cN (fun i => isS σ 1 i && decide (jP σ i = p)) N : Int)) (fun p => 2 * (cN (fun i => isS σ 2 i && decide (jP σ i = p)) N : Int)), sZ_mul, sZ_mul, e1, e2]
  omega
/-- the shares of a QUESTION together -/
theorem shares_ok {σ : Nat → Nat → Int32} {N P Q n q : Nat} (h : Inv σ N P Q n) (hq : q < Q) :
    (∀ a, a ≤ jA σ q → jCnt (fun a => decide (jShare σ 24 N q (nI a) (-1) < 0)) a = nI (cN (fun a => decide (jShare σ 24 N q (nI a) (-1) < 0)) a)) ∧
    ((0 < jCnt (fun a => decide (jShare σ 24 N q (nI a) (-1) < 0)) (jA σ q) ∧ jCnt (fun a => decide (jShare σ 24 N q (nI a) (-1) < 0)) (jA σ q) = nI (jA σ q)) ∨
     (¬ 0 < jCnt (fun a => decide (jShare σ 24 N q (nI a) (-1) < 0)) (jA σ q) ∧ ¬ nI 100 < jSum (fun a => jShare σ 24 N q (nI a) (-1)) (jA σ q) ∧ nI 100 - nI (jA σ q) < jSum (fun a => jShare σ 24 N q (nI a) (-1)) (jA σ q))) := by
  refine ⟨fun a _ => jCnt_cN _ a, ?_⟩
  obtain ⟨hA, hA2, hA5, hA0⟩ := Inv_jA h.2.1 hq
  have hN := h.1.2.1
  have hQ := h.1.2.2.2.2.2.1
  have hs := share_sums (σ := σ) (N := N) (q := q) (A := jA σ q) hN (fun i hi => (InvW_ok h.2.2.2.2.2 hN h.2.2.1.1 i hi).1) hA2 hA5 (fun i hi => by
    rcases (h.2.2.2.2.1.2.1 i (by omega)).2 q (by omega) with e | e
    · exact Or.inl e
    · exact Or.inr ⟨e.2.2.1, by have := e.2.2.2; omega⟩)
  rw [jCnt_cN]
  rcases hs with hs | ⟨hs, hs1, hs2⟩
  · left
    have e : ∀ m, m ≤ jA σ q → cN (fun a => decide (jShare σ 24 N q (nI a) (-1) < 0)) m = m := by
      intro m
      induction m with
      | zero => intro _; rfl
      | succ m ih =>
        intro hm
        rw [cN, ih (by omega), if_pos (decide_eq_true (tI_lt.mpr (by rw [hs m (by omega), tI_0]; omega)))]
    rw [e _ (Nat.le_refl _)]
    exact ⟨tI_lt.mpr (by rw [tI_n (by omega), tI_0]; omega), rfl⟩
  · right
    rw [cN_0 _ (fun a ha => decide_eq_false (fun z => by have := tI_lt.mp z; rw [tI_0] at this; have := hs a ha; omega))]
    have hsum : (jSum (fun a => jShare σ 24 N q (nI a) (-1)) (jA σ q)).toInt = sZ (fun a => (jShare σ 24 N q (nI a) (-1)).toInt) (jA σ q) := jSum_sZ (a := 0) (b := 100) (by omega) (by omega) _ hs (by omega) (by omega)
    have h100 : (nI 100 - nI (jA σ q)).toInt = 100 - (jA σ q : Int) := by rw [tI_sub (by rw [tI_n (by omega), tI_n (by omega)]; omega) (by rw [tI_n (by omega), tI_n (by omega)]; omega), tI_n (by omega), tI_n (by omega)]; rfl
    refine ⟨by decide, fun z => ?_, tI_lt.mpr ?_⟩
    · have := tI_lt.mp z
      rw [hsum, tI_n (by omega)] at this
      omega
    · rw [hsum, h100]
      exact hs2
end LWA
