section FUN1
/-! what the class's methods answer, as functions of the state σ: 0 the house, 1 the questionnaire, 2 quotas, 3 panel, 4 interviews, 7 reports (numbers of theirs); rows: 8 answers, 9 ways, 10 steps, 11 targets, 12 filled, 13 cells, 14 fatigue, 15 points, 16 latest, 17 people, 18 cells, 19 states, 20 places, 21 counts, 22 seconds, 23 answers, 24 weights, 25 trial, 26 shares -/
def jSum (f : Nat → Int32) : Nat → Int32
  | 0 => nI 0
  | n + 1 => jSum f n + f n
def jSumIf (p : Nat → Bool) (f : Nat → Int32) : Nat → Int32
  | 0 => nI 0
  | n + 1 => if p n then jSumIf p f n + f n else jSumIf p f n
def jCnt (p : Nat → Bool) : Nat → Int32
  | 0 => nI 0
  | n + 1 => if p n then jCnt p n + Int32.ofInt 1 else jCnt p n
def jOpenW (σ : Nat → Nat → Int32) (c : Nat) (f fa : Int32) : Bool := decide (σ 12 c - f < σ 11 c) || (decide (σ 12 c - f < σ 11 c + σ 2 0) && decide (jSum (σ 12) 6 - fa < jSum (σ 11) 6))
def jOpen (σ : Nat → Nat → Int32) (c : Nat) : Bool := jOpenW σ c (nI 0) (nI 0)
def jIsIn (c g : Nat) : Bool := if g < 3 then decide (c / 2 = g) else decide (c % 2 = g - 3)
def jMargin (σ : Nat → Nat → Int32) (g : Nat) : Int32 := nI 1000 * jSumIf (fun c => jIsIn c g) (σ 11) 6
def jFat (σ : Nat → Nat → Int32) (p : Nat) (d : Int32) : Int32 := if nI 0 < σ 14 p - d then σ 14 p - d else nI 0
def jAsk (σ : Nat → Nat → Int32) (p : Nat) (i : Int32) : Nat → Nat → Int32 := sW (sW σ 14 p (if σ 14 p + nI 2 < nI 9 then σ 14 p + nI 2 else nI 9)) 16 p i
/-- FATIGUE of the first k one less -/
def jDayF (σ : Nat → Nat → Int32) : Nat → Nat → Nat → Int32
  | 0 => σ
  | k + 1 => sW (jDayF σ k) 14 k (jFat (jDayF σ k) k (nI 1))
def jDay (σ : Nat → Nat → Int32) (P : Nat) : Nat → Nat → Int32 := sW (jDayF σ P) 3 1 (jDayF σ P 3 1 + nI 1)
def jHas (σ : Nat → Nat → Int32) (q : Int32) : Bool := !decide (q < 0) && decide (q < σ 1 0)
def jEnd (σ : Nat → Nat → Int32) (q : Int32) : Int32 := if q < σ 1 0 then q else -1
def jWay (σ : Nat → Nat → Int32) (q a : Nat) : Int32 := if σ 9 (q * 5 + a) = -2 then jEnd σ (nI (q + 1)) else σ 9 (q * 5 + a)
def jFirst (σ : Nat → Nat → Int32) (i : Int32) : Int32 := if 0 < σ 1 1 then i - i / σ 1 1 * σ 1 1 else nI 0
def jNext (σ : Nat → Nat → Int32) (i c : Int32) (q a : Nat) : Int32 := if 0 < σ 1 1 ∧ c < σ 1 1 then (i + c) - (i + c) / σ 1 1 * σ 1 1 else if 0 < σ 1 1 ∧ c = σ 1 1 then jEnd σ (σ 1 1) else jWay σ q a
def jPlace (r q a : Nat) : Nat := (r * 10 + q) * 5 + a
theorem jDayF_3 (σ : Nat → Nat → Int32) : ∀ k, jDayF σ k 3 = σ 3
  | 0 => rfl
  | k + 1 => (sW_nk _ _ _ (by decide)).trans (jDayF_3 σ k)
theorem jAof : ∀ c, c < 6 → nI c / nI 2 = nI (c / 2) := by decide +kernel
theorem jBof : ∀ c, c < 6 → nI c - nI c / nI 2 * nI 2 = nI (c % 2) := by decide +kernel
end FUN1
