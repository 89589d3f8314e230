section PU2
/-! what always holds of the state -/
def isS (σ : Nat → Nat → Int32) (s i : Nat) : Bool := decide (σ 19 i = nI s)
/-- sizes -/
def InvS (σ : Nat → Nat → Int32) (N P Q n : Nat) : Prop := σ 4 0 = nI N ∧ N ≤ 40 ∧ σ 3 0 = nI P ∧ P ≤ 24 ∧ σ 1 0 = nI Q ∧ Q ≤ 10 ∧ σ 0 0 = nI n ∧ n ≤ 9
/-- the questionnaire -/
def InvF (σ : Nat → Nat → Int32) (Q : Nat) : Prop := (∀ f, f < Q → 2 ≤ (σ 8 f).toInt ∧ (σ 8 f).toInt ≤ 5) ∧ (∀ f a, f < Q → a < 5 → jWay σ f a = -1 ∨ ((f : Int) < (jWay σ f a).toInt ∧ (jWay σ f a).toInt < Q)) ∧ 0 ≤ (σ 1 1).toInt ∧ (σ 1 1).toInt ≤ 3 ∧ (σ 1 1).toInt ≤ Q
/-- quotas -/
def InvC (σ : Nat → Nat → Int32) (N : Nat) : Prop := (∀ c, c < 6 → 0 ≤ (σ 11 c).toInt ∧ (σ 11 c).toInt ≤ 9) ∧ 0 ≤ (σ 2 0).toInt ∧ (σ 2 0).toInt ≤ 3 ∧ ∀ c, c < 6 → σ 12 c = nI (cN (fun i => isS σ 1 i && decide (jC σ i = c)) N)
/-- the panel -/
def InvD (σ : Nat → Nat → Int32) (N P : Nat) : Prop := ∀ p, p < P → (0 ≤ (σ 13 p).toInt ∧ (σ 13 p).toInt < 6) ∧ (0 ≤ (σ 14 p).toInt ∧ (σ 14 p).toInt ≤ 9) ∧
  σ 15 p = nI (10 * cN (fun i => isS σ 1 i && decide (jP σ i = p)) N + 2 * cN (fun i => isS σ 2 i && decide (jP σ i = p)) N) ∧
  ((σ 16 p = -1 ∧ ∀ i, i < N → jP σ i ≠ p) ∨ ∃ i, i < N ∧ σ 16 p = nI i ∧ jP σ i = p ∧ ∀ j, j < N → jP σ j = p → j ≠ i → σ 19 j = nI 2 ∨ σ 19 j = nI 3)
/-- how many QUESTIONS an INTERVIEW has answered -/
def jK (σ : Nat → Nat → Int32) (Q i : Nat) : Nat := cN (fun q => decide (jGiven σ i q ≠ -1)) Q
/-- which QUESTIONS a RUNNING INTERVIEW has behind it, c of them, at pl -/
def Pr (σ : Nat → Nat → Int32) (Q i pl c : Nat) : Prop := ((c : Int) < (σ 1 1).toInt ∧ (∀ q, q < Q → (jGiven σ i q ≠ -1 ↔ ∃ j, j < c ∧ q = (i + j) % (σ 1 1).toNatClampNeg)) ∧ pl = (i + c) % (σ 1 1).toNatClampNeg) ∨
   ((σ 1 1).toInt ≤ c ∧ ∀ q, q < Q → jGiven σ i q ≠ -1 → q < pl)
def Prog (σ : Nat → Nat → Int32) (Q i : Nat) : Prop := ∃ pl : Nat, pl < Q ∧ σ 20 i = nI pl ∧ Pr σ Q i pl (jK σ Q i)
/-- the interviews -/
def InvE (σ : Nat → Nat → Int32) (N P Q : Nat) : Prop := (∀ i, i < N → (0 ≤ (σ 17 i).toInt ∧ (σ 17 i).toInt < P) ∧ σ 18 i = σ 13 (jP σ i) ∧ (σ 19 i = nI 0 ∨ σ 19 i = nI 1 ∨ σ 19 i = nI 2 ∨ σ 19 i = nI 3) ∧
    ((σ 21 i).toInt ≤ (σ 22 i).toInt ∧ (σ 22 i).toInt ≤ 99 * (σ 21 i).toInt) ∧ (σ 19 i = nI 0 → Prog σ Q i) ∧ (σ 19 i ≠ nI 0 → σ 20 i = -1)) ∧
  (∀ i, i < 40 → σ 21 i = nI (jK σ Q i) ∧ ∀ q, q < 10 → jGiven σ i q = -1 ∨ (i < N ∧ q < Q ∧ 0 ≤ (jGiven σ i q).toInt ∧ (jGiven σ i q).toInt < (σ 8 q).toInt)) ∧
  (∀ i, N ≤ i → i < 40 → σ 22 i = nI 0 ∧ σ 24 i = nI 0)
theorem InvS.hN {σ : Nat → Nat → Int32} {N P Q n : Nat} (h : InvS σ N P Q n) : σ 4 0 = nI N ∧ N ≤ 40 := ⟨h.1, h.2.1⟩
theorem Inv_hpc {σ : Nat → Nat → Int32} {N P : Nat} (h : InvD σ N P) : ∀ p, p < P → Nn (σ 13 p) 6 := fun p hp => (Nn_iff (by omega)).mpr ⟨(h p hp).1.1, (h p hp).1.2⟩
theorem Inv_hpe {σ : Nat → Nat → Int32} {N P Q : Nat} (h : InvE σ N P Q) (hP : P ≤ 24) : ∀ i, i < N → Nn (σ 17 i) 24 := fun i hi => (Nn_iff (by omega)).mpr ⟨(h.1 i hi).1.1, by have := (h.1 i hi).1.2; omega⟩
theorem Inv_jP {σ : Nat → Nat → Int32} {N P Q : Nat} (h : InvE σ N P Q) (hP : P ≤ 24) {i : Nat} (hi : i < N) : jP σ i < P ∧ σ 17 i = nI (jP σ i) := by
  have h1 := Inv_hpe h hP i hi
  have h2 := (h.1 i hi).1.2
  rw [h1.1, tI_n (by have := h1.2; omega)] at h2
  exact ⟨by unfold jP; omega, h1.1⟩
theorem Inv_hce {σ : Nat → Nat → Int32} {N P Q : Nat} (h : InvE σ N P Q) (hD : InvD σ N P) (hP : P ≤ 24) : ∀ i, i < N → Nn (σ 18 i) 6 := fun i hi => by
  rw [(h.1 i hi).2.1]
  exact Inv_hpc hD _ (Inv_jP h hP hi).1
theorem Inv_hA {σ : Nat → Nat → Int32} {Q : Nat} (h : InvF σ Q) : ∀ f, f < Q → Nn (σ 8 f) 6 := fun f hf => (Nn_iff (by omega)).mpr ⟨by have := (h.1 f hf).1; omega, by have := (h.1 f hf).2; omega⟩
theorem Inv_jA {σ : Nat → Nat → Int32} {Q : Nat} (h : InvF σ Q) {f : Nat} (hf : f < Q) : (jA σ f : Int) = (σ 8 f).toInt ∧ 2 ≤ jA σ f ∧ jA σ f ≤ 5 ∧ σ 8 f = nI (jA σ f) := by
  have h1 := h.1 f hf
  have h2 : (jA σ f : Int) = (σ 8 f).toInt := clamp_toInt (by omega)
  exact ⟨h2, by omega, by omega, (Inv_hA h f hf).1⟩
theorem Inv_hW {σ : Nat → Nat → Int32} {Q : Nat} (h : InvF σ Q) (hQ : Q ≤ 10) : ∀ f a, f < Q → a < 5 → jWay σ f a = -1 ∨ Nn (jWay σ f a) 10 := fun f a hf ha => (h.2.1 f a hf ha).imp id (fun q => (Nn_iff (by omega)).mpr ⟨by omega, by omega⟩)
/-! a state's number is what is counted; one INTERVIEW that turns -/
theorem isS_ne {σ : Nat → Nat → Int32} {s t i : Nat} (hs : s < 4) (ht : t < 4) (h : σ 19 i = nI s) (hst : s ≠ t) : isS σ t i = false := by
  unfold isS
  rw [h, decide_eq_false_iff_not, nI_eq (by omega) (by omega)]
  exact hst
theorem isS_eq {σ : Nat → Nat → Int32} {s i : Nat} (h : σ 19 i = nI s) : isS σ s i = true := decide_eq_true h
theorem cN_turn {σ σ' : Nat → Nat → Int32} {N k s s' t : Nat} {g : Nat → Bool} (hk : k < N) (hs : s < 4) (hs' : s' < 4) (ht : t < 4) (h1 : σ 19 k = nI s) (h2 : σ' 19 k = nI s') (h3 : ∀ i, i ≠ k → σ' 19 i = σ 19 i) :
    (cN (fun i => isS σ' t i && g i) N : Int) = cN (fun i => isS σ t i && g i) N + (if s' = t ∧ g k = true then 1 else 0) - (if s = t ∧ g k = true then 1 else 0) := by
  have h4 := cN_set (p := fun i => isS σ' t i && g i) (q := fun i => isS σ t i && g i) (k := k) N hk (fun i hi => by unfold isS; rw [h3 i hi])
  have e1 : (isS σ' t k && g k) = true ↔ (s' = t ∧ g k = true) := by
    unfold isS
    rw [h2, Bool.and_eq_true, decide_eq_true_eq, nI_eq (by omega) (by omega)]
  have e2 : (isS σ t k && g k) = true ↔ (s = t ∧ g k = true) := by
    unfold isS
    rw [h1, Bool.and_eq_true, decide_eq_true_eq, nI_eq (by omega) (by omega)]
  simp only [e1, e2] at h4
  omega
end PU2
