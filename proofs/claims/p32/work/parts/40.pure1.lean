section PU1
/-! numbers: small ones as integers -/
theorem tI_add {a b : Int32} (h1 : -2147483648 ≤ a.toInt + b.toInt) (h2 : a.toInt + b.toInt < 2147483648) : (a + b).toInt = a.toInt + b.toInt := by
  rw [Int32.toInt_add]
  exact Int.bmod_eq_of_le (by omega) (by omega)
theorem tI_sub {a b : Int32} (h1 : -2147483648 ≤ a.toInt - b.toInt) (h2 : a.toInt - b.toInt < 2147483648) : (a - b).toInt = a.toInt - b.toInt := by
  rw [Int32.toInt_sub]
  exact Int.bmod_eq_of_le (by omega) (by omega)
theorem tI_mul {a b : Int32} (h1 : -2147483648 ≤ a.toInt * b.toInt) (h2 : a.toInt * b.toInt < 2147483648) : (a * b).toInt = a.toInt * b.toInt := by
  rw [Int32.toInt_mul]
  exact Int.bmod_eq_of_le (by omega) (by omega)
theorem tI_div {a b : Int32} (h1 : 0 ≤ a.toInt) (h2 : 0 < b.toInt) : (a / b).toInt = a.toInt / b.toInt := by
  rw [Int32.toInt_div, Int.tdiv_eq_ediv_of_nonneg h1]
  have h3 : a.toInt / b.toInt ≤ a.toInt := Int.ediv_le_self _ h1
  have h4 : 0 ≤ a.toInt / b.toInt := Int.ediv_nonneg h1 (by omega)
  have h5 := Int32.toInt_lt a
  exact Int.bmod_eq_of_le (by omega) (by omega)
theorem tI_lt {a b : Int32} : a < b ↔ a.toInt < b.toInt := Int32.lt_iff_toInt_lt
theorem tI_le {a b : Int32} : a ≤ b ↔ a.toInt ≤ b.toInt := Int32.le_iff_toInt_le
theorem tI_eq {a b : Int32} : a = b ↔ a.toInt = b.toInt := Int32.toInt_inj.symm
theorem tI_n {k : Nat} (h : k < 2147483648) : (nI k).toInt = k := nI_toInt h
theorem tI_0 : (0 : Int32).toInt = 0 := by decide
theorem tI_m1 : (-1 : Int32).toInt = -1 := by decide
theorem nI_of_toInt {x : Int32} {k : Nat} (h : x.toInt = k) : x = nI k := by
  have h2 := Int32.toInt_lt x
  rw [tI_eq, tI_n (by omega), h]
theorem Nn_iff {x : Int32} {n : Nat} (hn : n ≤ 2147483648) : Nn x n ↔ 0 ≤ x.toInt ∧ x.toInt < n := by
  constructor
  · rintro ⟨h1, h2⟩
    rw [h1, tI_n (by omega)]
    omega
  · rintro ⟨h1, h2⟩
    have h3 : x = nI x.toInt.toNat := nI_of_toInt (by omega)
    rw [h3]
    exact Nn_of (by omega) (by omega)
theorem clamp_toInt {x : Int32} (h : 0 ≤ x.toInt) : (x.toNatClampNeg : Int) = x.toInt := by
  have h2 := Int32.toInt_lt x
  have h3 : x = nI x.toInt.toNat := nI_of_toInt (by omega)
  rw [h3, nI_clamp (by omega), tI_n (by omega)]
theorem bI_toInt (b : Bool) : (bI b).toInt = if b then 1 else 0 := by cases b <;> decide
/-! counts -/
def cN (p : Nat → Bool) : Nat → Nat
  | 0 => 0
  | n + 1 => if p n then cN p n + 1 else cN p n
theorem cN_le (p : Nat → Bool) : ∀ n, cN p n ≤ n
  | 0 => Nat.le_refl _
  | n + 1 => by
    have := cN_le p n
    rw [cN]
    split <;> omega
theorem jCnt_cN (p : Nat → Bool) : ∀ n, jCnt p n = nI (cN p n)
  | 0 => rfl
  | n + 1 => by
    rw [jCnt, cN, jCnt_cN p n]
    split
    · exact nI_inc _
    · rfl
theorem cN_congr {p q : Nat → Bool} : ∀ n, (∀ i, i < n → p i = q i) → cN p n = cN q n
  | 0, _ => rfl
  | n + 1, h => by rw [cN, cN, cN_congr n (fun i hi => h i (by omega)), h n (by omega)]
theorem cN_mono {p q : Nat → Bool} : ∀ n, (∀ i, i < n → p i = true → q i = true) → cN p n ≤ cN q n
  | 0, _ => Nat.le_refl _
  | n + 1, h => by
    have h1 := cN_mono n (fun i hi => h i (by omega))
    have h2 := h n (by omega)
    rw [cN, cN]
    by_cases e : p n = true
    · rw [if_pos e, if_pos (h2 e)]
      omega
    · rw [if_neg e]
      split <;> omega
theorem cN_or {p q : Nat → Bool} : ∀ n, (∀ i, i < n → ¬ (p i = true ∧ q i = true)) → cN (fun i => p i || q i) n = cN p n + cN q n
  | 0, _ => rfl
  | n + 1, h => by
    have h1 := cN_or n (fun i hi => h i (by omega))
    have h2 := h n (by omega)
    rw [cN, cN, cN, h1]
    cases hp : p n <;> cases hq : q n <;> simp [hp, hq] at h2 ⊢ <;> omega
theorem cN_0 {p : Nat → Bool} : ∀ n, (∀ i, i < n → p i = false) → cN p n = 0
  | 0, _ => rfl
  | n + 1, h => by rw [cN, h n (by omega), cN_0 n (fun i hi => h i (by omega))]; rfl
theorem cN_pos {p : Nat → Bool} {i : Nat} : ∀ n, i < n → p i = true → 0 < cN p n
  | n + 1, h, hp => by
    rw [cN]
    by_cases e : i = n
    · subst e
      rw [if_pos hp]
      omega
    · have := cN_pos n (by omega) hp
      split <;> omega
/-- one place changed -/
theorem cN_set {p q : Nat → Bool} {k : Nat} : ∀ n, k < n → (∀ i, i ≠ k → p i = q i) → (cN p n : Int) - (if p k then 1 else 0) = (cN q n : Int) - (if q k then 1 else 0)
  | n + 1, hk, h => by
    rw [cN, cN]
    by_cases e : k = n
    · subst e
      have := cN_congr k (fun i hi => h i (by omega))
      rw [this]
      split <;> split <;> simp <;> omega
    · have h1 := cN_set n (by omega) h
      rw [h n (fun e2 => e e2.symm)]
      split <;> omega
/-! sums -/
def sZ (f : Nat → Int) : Nat → Int
  | 0 => 0
  | n + 1 => sZ f n + f n
theorem sZ_congr {f g : Nat → Int} : ∀ n, (∀ i, i < n → f i = g i) → sZ f n = sZ g n
  | 0, _ => rfl
  | n + 1, h => by rw [sZ, sZ, sZ_congr n (fun i hi => h i (by omega)), h n (by omega)]
theorem sZ_bound {f : Nat → Int} {a b : Int} : ∀ n : Nat, (∀ i, i < n → a ≤ f i ∧ f i ≤ b) → a * n ≤ sZ f n ∧ sZ f n ≤ b * n
  | 0, _ => by simp [sZ]
  | n + 1, h => by
    obtain ⟨h1, h2⟩ := sZ_bound n (fun i hi => h i (by omega))
    obtain ⟨h3, h4⟩ := h n (by omega)
    rw [sZ]
    have e1 : a * ((n + 1 : Nat) : Int) = a * n + a := by rw [Int.natCast_add, Int.mul_add]; simp
    have e2 : b * ((n + 1 : Nat) : Int) = b * n + b := by rw [Int.natCast_add, Int.mul_add]; simp
    omega
theorem sZ_add (f g : Nat → Int) : ∀ n, sZ (fun i => f i + g i) n = sZ f n + sZ g n
  | 0 => rfl
  | n + 1 => by
    rw [sZ, sZ, sZ, sZ_add f g n]
    omega
theorem sZ_nonneg {f : Nat → Int} : ∀ n, (∀ i, i < n → 0 ≤ f i) → 0 ≤ sZ f n
  | 0, _ => Int.le_refl _
  | n + 1, h => by
    have := sZ_nonneg n (fun i hi => h i (by omega))
    have := h n (by omega)
    rw [sZ]
    omega
theorem sZ_ge_one {f : Nat → Int} {k : Nat} : ∀ n, k < n → (∀ i, i < n → 0 ≤ f i) → f k ≤ sZ f n
  | n + 1, hk, h => by
    rw [sZ]
    by_cases e : k = n
    · subst e
      have := sZ_nonneg k (fun i hi => h i (by omega))
      omega
    · have := sZ_ge_one (k := k) n (by omega) (fun i hi => h i (by omega))
      have := h n (by omega)
      omega
theorem sZ_set {f g : Nat → Int} {k : Nat} : ∀ n, k < n → (∀ i, i ≠ k → f i = g i) → sZ f n - f k = sZ g n - g k
  | n + 1, hk, h => by
    rw [sZ, sZ]
    by_cases e : k = n
    · subst e
      rw [sZ_congr k (fun i hi => h i (by omega))]
      omega
    · have h1 := sZ_set n (by omega) h
      rw [h n (fun e2 => e e2.symm)]
      omega
theorem sZ_const0 {f : Nat → Int} : ∀ n, (∀ i, i < n → f i = 0) → sZ f n = 0
  | 0, _ => rfl
  | n + 1, h => by rw [sZ, h n (by omega), sZ_const0 n (fun i hi => h i (by omega))]; rfl
theorem cN_sZ (p : Nat → Bool) : ∀ n, (cN p n : Int) = sZ (fun i => if p i then 1 else 0) n
  | 0 => rfl
  | n + 1 => by
    rw [cN, sZ, ← cN_sZ p n]
    split <;> simp
/-- sums one after the other can be taken in either order -/
theorem sZ_swap (f : Nat → Nat → Int) (m : Nat) : ∀ n, sZ (fun i => sZ (fun j => f i j) m) n = sZ (fun j => sZ (fun i => f i j) n) m
  | 0 => by
    rw [sZ]
    exact (sZ_const0 m (fun i _ => rfl)).symm
  | n + 1 => by
    rw [sZ, sZ_swap f m n, ← sZ_add]
    rfl
/-- of one that is one of m, just one is -/
theorem sZ_pick {c m : Nat} (v : Int) (h : c < m) : sZ (fun j => if c = j then v else 0) m = v := by
  have h1 := sZ_set (f := fun j => if c = j then v else 0) (g := fun _ => 0) (k := c) m h (fun i hi => by simp [Ne.symm hi])
  rw [sZ_const0 m (fun i _ => rfl)] at h1
  simp at h1
  omega
theorem jSum_sZ {f : Nat → Int32} {a b : Int} (ha : a ≤ 0) (hb : 0 ≤ b) : ∀ n : Nat, (∀ i, i < n → a ≤ (f i).toInt ∧ (f i).toInt ≤ b) → -2147483648 ≤ a * n → b * n < 2147483648 → (jSum f n).toInt = sZ (fun i => (f i).toInt) n
  | 0, _, _, _ => rfl
  | n + 1, h, h1, h2 => by
    have e1 : a * ((n + 1 : Nat) : Int) = a * n + a := by rw [Int.natCast_add, Int.mul_add]; simp
    have e2 : b * ((n + 1 : Nat) : Int) = b * n + b := by rw [Int.natCast_add, Int.mul_add]; simp
    have ih := jSum_sZ ha hb n (fun i hi => h i (by omega)) (by omega) (by omega)
    obtain ⟨b1, b2⟩ := sZ_bound n (fun i hi => h i (by omega))
    obtain ⟨b3, b4⟩ := h n (by omega)
    rw [jSum, sZ, tI_add (by rw [ih]; omega) (by rw [ih]; omega), ih]
theorem jSumIf_jSum (p : Nat → Bool) (f : Nat → Int32) : ∀ n, jSumIf p f n = jSum (fun i => if p i then f i else 0) n
  | 0 => rfl
  | n + 1 => by
    rw [jSumIf, jSum, jSumIf_jSum p f n]
    split
    · rfl
    · simp
end PU1
