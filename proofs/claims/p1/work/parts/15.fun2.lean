section FUN2
def jC (σ : Nat → Nat → Int32) (i : Nat) : Nat := (σ 18 i).toNatClampNeg
def Nn (x : Int32) (n : Nat) : Prop := x = nI x.toNatClampNeg ∧ x.toNatClampNeg < n
theorem Nn_of {j n : Nat} (h : j < n) (hn : n ≤ 2 ^ 31) : Nn (nI j) n := by
  unfold Nn
  rw [nI_clamp (by omega)]
  exact ⟨rfl, h⟩
theorem Nn_lt {x : Int32} {n : Nat} (h0 : ¬ x < 0) (h1 : x < nI n) (hn : n < 2 ^ 31) : Nn x n := by
  obtain ⟨j, hj, rfl⟩ := nI_of h0
  exact Nn_of ((nI_ltI hj hn).mp h1) (by omega)
def jGiven (σ : Nat → Nat → Int32) (i q : Nat) : Int32 := σ 23 (i * 10 + q)
def jFast (σ : Nat → Nat → Int32) (i : Nat) : Bool := decide (σ 22 i < nI 3 * σ 21 i)
/-- the first ANSWER among those of the first k QUESTIONS -/
def jLF (σ : Nat → Nat → Int32) (i : Nat) : Nat → Int32
  | 0 => -1
  | k + 1 => if jLF σ i k = -1 then jGiven σ i k else jLF σ i k
def jLOk (σ : Nat → Nat → Int32) (i : Nat) : Nat → Bool
  | 0 => true
  | k + 1 => jLOk σ i k && (decide (jLF σ i k = -1) || (decide (jGiven σ i k = -1) || decide (jGiven σ i k = jLF σ i k)))
theorem jLOk_mono (σ : Nat → Nat → Int32) (i : Nat) {a : Nat} (h : jLOk σ i a = false) : ∀ b, a ≤ b → jLOk σ i b = false := by
  intro b hb
  induction b with
  | zero => rw [show a = 0 by omega] at h; exact h
  | succ b ih =>
    by_cases e : a = b + 1
    · rw [← e]; exact h
    · rw [jLOk, ih (by omega)]; rfl
def jLine (σ : Nat → Nat → Int32) (i : Nat) : Bool := !decide (σ 21 i < nI 4) && jLOk σ i 10
def jDirty (σ : Nat → Nat → Int32) (i : Nat) : Bool := decide (σ 19 i = nI 1) && (jFast σ i || jLine σ i)
def jCounted (σ : Nat → Nat → Int32) (q : Nat) (A : Int32) (i : Nat) : Bool := decide (σ 19 i = nI 1) && (!decide (jGiven σ i q = -1) && (decide (A = -1) || decide (nI (jC σ i / 2) = A)))
def jNote (σ : Nat → Nat → Int32) (i q : Nat) (a s : Int32) : Nat → Nat → Int32 := sW (sW (sW σ 23 (i * 10 + q) a) 22 i (σ 22 i + s)) 21 i (σ 21 i + nI 1)
def jIAdd (σ : Nat → Nat → Int32) (N : Nat) (p c : Int32) : Nat → Nat → Int32 := sW (sW (sW (sW σ 17 N p) 18 N c) 19 N (nI 0)) 4 0 (nI (N + 1))
def jTaken (σ : Nat → Nat → Int32) (l : Int32) : Bool := !decide (l < 0) && (decide (l < σ 4 0) && (decide (σ 19 l.toNatClampNeg = 0) || decide (σ 19 l.toNatClampNeg = nI 1)))
/-- the least of 10 and what the first k ANSWERS of the QUESTION f lead to -/
def jLeast (σ : Nat → Nat → Int32) (f : Nat) : Nat → Int32
  | 0 => nI 10
  | a + 1 => if (if jWay σ f a = -1 then nI 1 else nI 1 + σ 10 (jWay σ f a).toNatClampNeg) < jLeast σ f a then (if jWay σ f a = -1 then nI 1 else nI 1 + σ 10 (jWay σ f a).toNatClampNeg) else jLeast σ f a
/-- the steps of the last k QUESTIONS of Q -/
def jSteps (σ : Nat → Nat → Int32) (Q : Nat) : Nat → Nat → Nat → Int32
  | 0 => σ
  | k + 1 => sW (jSteps σ Q k) 10 (Q - 1 - k) (jLeast (jSteps σ Q k) (Q - 1 - k) (σ 8 (Q - 1 - k)).toNatClampNeg)
theorem jSteps_ne (σ : Nat → Nat → Int32) (Q : Nat) {a : Nat} (h : a ≠ 10) : ∀ k, jSteps σ Q k a = σ a
  | 0 => rfl
  | k + 1 => (sW_nk _ _ _ h).trans (jSteps_ne σ Q h k)
theorem jWay_steps (σ : Nat → Nat → Int32) (Q k q a : Nat) : jWay (jSteps σ Q k) q a = jWay σ q a := by
  unfold jWay jEnd
  rw [jSteps_ne σ Q (by decide), jSteps_ne σ Q (by decide)]
theorem jPred : ∀ q, q < 11 → nI q - nI 1 < nI q := by decide +kernel
def jShort (σ : Nat → Nat → Int32) (Q q : Nat) : Int32 := jSteps σ Q (Q - q) 10 q
/-- weights, row r: of the first k INTERVIEWS at first -/
def jW0 (σ : Nat → Nat → Int32) (r : Nat) : Nat → Nat → Nat → Int32
  | 0 => σ
  | k + 1 => sW (jW0 σ r k) r k (if σ 19 k = nI 1 then nI 1000 else nI 0)
theorem jW0_ne (σ : Nat → Nat → Int32) {r a : Nat} (h : a ≠ r) : ∀ k, jW0 σ r k a = σ a
  | 0 => rfl
  | k + 1 => (sW_nk _ _ _ h).trans (jW0_ne σ h k)
/-- the WEIGHTS of a group together -/
def jSumG (σ : Nat → Nat → Int32) (r N g : Nat) : Int32 := jSumIf (fun i => jIsIn (jC σ i) g) (σ r) N
def jSc (σ : Nat → Nat → Int32) (r g : Nat) (m s : Int32) : Nat → Nat → Nat → Int32
  | 0 => σ
  | k + 1 => if jIsIn (jC σ k) g then sW (jSc σ r g m s k) r k (jSc σ r g m s k r k * m / s) else jSc σ r g m s k
theorem jSc_ne (σ : Nat → Nat → Int32) {r a : Nat} (g : Nat) (m s : Int32) (h : a ≠ r) : ∀ k, jSc σ r g m s k a = σ a
  | 0 => rfl
  | k + 1 => by
    rw [jSc]
    split
    · exact (sW_nk _ _ _ h).trans (jSc_ne σ g m s h k)
    · exact jSc_ne σ g m s h k
def jScale (σ : Nat → Nat → Int32) (r N g : Nat) (m : Int32) : Nat → Nat → Int32 := if 0 < jSumG σ r N g then jSc σ r g m (jSumG σ r N g) N else σ
theorem jScale_ne (σ : Nat → Nat → Int32) {r a : Nat} (N g : Nat) (m : Int32) (h : a ≠ r) : jScale σ r N g m a = σ a := by
  unfold jScale
  split
  · exact jSc_ne σ g m _ h N
  · rfl
def jGr (σ : Nat → Nat → Int32) (r N : Nat) : Nat → Nat → Nat → Int32
  | 0 => σ
  | g + 1 => jScale (jGr σ r N g) r N g (jMargin (jGr σ r N g) g)
theorem jGr_ne (σ : Nat → Nat → Int32) {r a : Nat} (N : Nat) (h : a ≠ r) : ∀ k, jGr σ r N k a = σ a
  | 0 => rfl
  | k + 1 => (jScale_ne _ N k _ h).trans (jGr_ne σ N h k)
def jRd (σ : Nat → Nat → Int32) (r N : Nat) : Nat → Nat → Nat → Int32
  | 0 => σ
  | k + 1 => jGr (jRd σ r N k) r N 5
theorem jRd_ne (σ : Nat → Nat → Int32) {r a : Nat} (N : Nat) (h : a ≠ r) : ∀ k, jRd σ r N k a = σ a
  | 0 => rfl
  | k + 1 => (jGr_ne _ N h 5).trans (jRd_ne σ N h k)
def jWeigh (σ : Nat → Nat → Int32) (r N n : Nat) : Nat → Nat → Int32 := jRd (jW0 σ r N) r N n
theorem jWeigh_ne (σ : Nat → Nat → Int32) {r a : Nat} (N n : Nat) (h : a ≠ r) : jWeigh σ r N n a = σ a := (jRd_ne _ N h n).trans (jW0_ne σ h N)
def jAbs (x : Int32) : Int32 := if ¬ x < 0 then x else 0 - x
def jMax (x y : Int32) : Int32 := if x < y then y else x
def jFar (σ : Nat → Nat → Int32) (r N : Nat) : Nat → Int32
  | 0 => nI 0
  | g + 1 => if 0 < jSumG σ r N g then (if jFar σ r N g < (if 0 ≤ jSumG σ r N g - jMargin σ g then jSumG σ r N g - jMargin σ g else 0 - (jSumG σ r N g - jMargin σ g)) then (if 0 ≤ jSumG σ r N g - jMargin σ g then jSumG σ r N g - jMargin σ g else 0 - (jSumG σ r N g - jMargin σ g)) else jFar σ r N g) else jFar σ r N g
def jShare (σ : Nat → Nat → Int32) (r N q : Nat) (a A : Int32) : Int32 := if 0 < jSumIf (jCounted σ q A) (σ r) N then nI 100 * jSumIf (fun i => jCounted σ q A i && decide (jGiven σ i q = a)) (σ r) N / jSumIf (jCounted σ q A) (σ r) N else -1
end FUN2
