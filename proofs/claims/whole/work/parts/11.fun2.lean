section FUN2
def jC (σ : Nat → Nat → Int32) (i : Nat) : Nat := (σ 18 i).toNatClampNeg
def Nn (x : Int32) (n : Nat) : Prop := x = nI x.toNatClampNeg ∧ x.toNatClampNeg < n
theorem Nn_of {j n : Nat} (h : j < n) (hn : n ≤ 2 ^ 31) : Nn (nI j) n := by
  unfold Nn
  rw [nI_clamp (by omega)]
  exact ⟨rfl, h⟩
theorem Nn_lt {x : Int32} {n : Nat} (h0 : ¬ x < 0) (h1 : x < nI n) (hn : n < 2 ^ 31) : Nn x n := by
  obtain ⟨j, hj, rfl⟩ := nI_of h0
  exact Nn_of ((nI_ltI hj hn).mp h1) (by omega)
def jGiven (σ : Nat → Nat → Int32) (i q : Nat) : Int32 := σ 23 (i * 10 + q)
def jFast (σ : Nat → Nat → Int32) (i : Nat) : Bool := decide (σ 22 i < nI 3 * σ 21 i)
/-- the first ANSWER among those of the first k QUESTIONS -/
def jLF (σ : Nat → Nat → Int32) (i : Nat) : Nat → Int32
  | 0 => -1
  | k + 1 => if jLF σ i k = -1 then jGiven σ i k else jLF σ i k
def jLOk (σ : Nat → Nat → Int32) (i : Nat) : Nat → Bool
  | 0 => true
  | k + 1 => jLOk σ i k && (decide (jLF σ i k = -1) || (decide (jGiven σ i k = -1) || decide (jGiven σ i k = jLF σ i k)))
theorem jLOk_mono (σ : Nat → Nat → Int32) (i : Nat) {a : Nat} (h : jLOk σ i a = false) : ∀ b, a ≤ b → jLOk σ i b = false := by
  intro b hb
  induction b with
  | zero => rw [show a = 0 by omega] at h; exact h
  | succ b ih =>
    by_cases e : a = b + 1
    · rw [← e]; exact h
    · rw [jLOk, ih (by omega)]; rfl
def jLine (σ : Nat → Nat → Int32) (i : Nat) : Bool := !decide (σ 21 i < nI 4) && jLOk σ i 10
def jDirty (σ : Nat → Nat → Int32) (i : Nat) : Bool := decide (σ 19 i = nI 1) && (jFast σ i || jLine σ i)
def jCounted (σ : Nat → Nat → Int32) (q : Nat) (A : Int32) (i : Nat) : Bool := decide (σ 19 i = nI 1) && (!decide (jGiven σ i q = -1) && (decide (A = -1) || decide (nI (jC σ i / 2) = A)))
def jNote (σ : Nat → Nat → Int32) (i q : Nat) (a s : Int32) : Nat → Nat → Int32 := sW (sW (sW σ 23 (i * 10 + q) a) 22 i (σ 22 i + s)) 21 i (σ 21 i + nI 1)
def jIAdd (σ : Nat → Nat → Int32) (N : Nat) (p c : Int32) : Nat → Nat → Int32 := sW (sW (sW (sW σ 17 N p) 18 N c) 19 N (nI 0)) 4 0 (nI (N + 1))
def jTaken (σ : Nat → Nat → Int32) (l : Int32) : Bool := !decide (l < 0) && (decide (l < σ 4 0) && (decide (σ 19 l.toNatClampNeg = 0) || decide (σ 19 l.toNatClampNeg = nI 1)))
/-- the least of 10 and what the first k ANSWERS of the QUESTION f lead to -/
def jLeast (σ : Nat → Nat → Int32) (f : Nat) : Nat → Int32
  | 0 => nI 10
  | a + 1 => if (if jWay σ f a = -1 then nI 1 else nI 1 + σ 10 (jWay σ f a).toNatClampNeg) < jLeast σ f a then (if jWay σ f a = -1 then nI 1 else nI 1 + σ 10 (jWay σ f a).toNatClampNeg) else jLeast σ f a
/-- the steps of the last k QUESTIONS of Q -/
def jSteps (σ : Nat → Nat → Int32) (Q : Nat) : Nat → Nat → Nat → Int32
  | 0 => σ
  | k + 1 => sW (jSteps σ Q k) 10 (Q - 1 - k) (jLeast (jSteps σ Q k) (Q - 1 - k) (σ 8 (Q - 1 - k)).toNatClampNeg)
theorem jSteps_ne (σ : Nat → Nat → Int32) (Q : Nat) {a : Nat} (h : a ≠ 10) : ∀ k, jSteps σ Q k a = σ a
  | 0 => rfl
  | k + 1 => (sW_nk _ _ _ h).trans (jSteps_ne σ Q h k)
end FUN2
