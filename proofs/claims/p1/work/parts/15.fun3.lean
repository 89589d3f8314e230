section FUN3
def jPc (σ : Nat → Nat → Int32) (p : Nat) : Nat := (σ 13 p).toNatClampNeg
def jP (σ : Nat → Nat → Int32) (i : Nat) : Nat := (σ 17 i).toNatClampNeg
def jA (σ : Nat → Nat → Int32) (q : Nat) : Nat := (σ 8 q).toNatClampNeg
def jCan (σ : Nat → Nat → Int32) (p : Nat) (d : Int32) : Bool := !jTaken σ (σ 16 p) && (!decide (nI 4 < jFat σ p d) && jOpen σ (jPc σ p))
def jToAsk (σ : Nat → Nat → Int32) (P : Nat) (c : Int32) : Int32 := jCnt (fun p => decide (σ 13 p = c) && jCan σ p (nI 0)) P
def jAllAsk (σ : Nat → Nat → Int32) (P : Nat) : Int32 := jSum (fun c => jToAsk σ P (nI c)) 6
def jLack (σ : Nat → Nat → Int32) (c : Nat) : Int32 := σ 11 c - σ 12 c
def jAhead (σ : Nat → Nat → Int32) (p o : Nat) (d : Int32) : Bool := if jLack σ (jPc σ p) = jLack σ (jPc σ o) then decide (jFat σ p d < jFat σ o d) else decide (jLack σ (jPc σ o) < jLack σ (jPc σ p))
def jNxt (σ : Nat → Nat → Int32) (d : Int32) : Nat → Int32
  | 0 => -1
  | k + 1 => if jCan σ k d && (decide (jNxt σ d k = -1) || jAhead σ k (jNxt σ d k).toNatClampNeg d) then nI k else jNxt σ d k
theorem jNxt_or (σ : Nat → Nat → Int32) (d : Int32) : ∀ k, k ≤ 24 → jNxt σ d k = -1 ∨ Nn (jNxt σ d k) k
  | 0, _ => Or.inl rfl
  | k + 1, h => by
    rw [jNxt]
    split
    · exact Or.inr (Nn_of (by omega) (by omega))
    · rcases jNxt_or σ d k (by omega) with h1 | h1
      · exact Or.inl h1
      · exact Or.inr ⟨h1.1, by have := h1.2; omega⟩
def jDone (σ : Nat → Nat → Int32) (i : Nat) : Nat → Nat → Int32 := sW (sW (sW σ 19 i (nI 1)) 12 (jC σ i) (σ 12 (jC σ i) + nI 1)) 15 (jP σ i) (σ 15 (jP σ i) + nI 10)
def jOut (σ : Nat → Nat → Int32) (i : Nat) : Nat → Nat → Int32 := sW (sW σ 19 i (nI 2)) 15 (jP σ i) (σ 15 (jP σ i) + nI 2)
def jFinish (σ : Nat → Nat → Int32) (N n i : Nat) : Nat → Nat → Int32 := if jOpen σ (jC σ i) then jWeigh (jDone σ i) 24 N n else jOut σ i
def jAnsT (σ : Nat → Nat → Int32) (i pl a : Nat) (t : Int32) : Int32 := jNext (jNote σ i pl (nI a) t) (nI i) (jNote σ i pl (nI a) t 21 i) pl a
def jAns1 (σ : Nat → Nat → Int32) (i pl a : Nat) (t : Int32) : Nat → Nat → Int32 := sW (jNote σ i pl (nI a) t) 20 i (jAnsT σ i pl a t)
def jAns (σ : Nat → Nat → Int32) (N n i pl a : Nat) (t : Int32) : Nat → Nat → Int32 := if jAnsT σ i pl a t = -1 then jFinish (jAns1 σ i pl a t) N n i else jAns1 σ i pl a t
def jBegin (σ : Nat → Nat → Int32) (N p : Nat) : Nat → Nat → Int32 := jAsk (sW (jIAdd σ N (nI p) (σ 13 p)) 20 N (jFirst (jIAdd σ N (nI p) (σ 13 p)) (nI N))) p (nI N)
/-- the first k INTERVIEWS cleaned -/
def jCl1 (σ : Nat → Nat → Int32) (k : Nat) : Nat → Nat → Int32 := sW (sW (sW σ 19 k (nI 3)) 12 (jC σ k) (σ 12 (jC σ k) + (-1))) 15 (jP σ k) (σ 15 (jP σ k) + (-10))
def jCl (σ : Nat → Nat → Int32) : Nat → Nat → Nat → Int32
  | 0 => σ
  | k + 1 => if jDirty (jCl σ k) k then jCl1 (jCl σ k) k else jCl σ k
def jClN (σ : Nat → Nat → Int32) : Nat → Int32
  | 0 => nI 0
  | k + 1 => if jDirty (jCl σ k) k then jClN σ k + Int32.ofInt 1 else jClN σ k
theorem jCl_ne (σ : Nat → Nat → Int32) {a : Nat} (h1 : a ≠ 19) (h2 : a ≠ 12) (h3 : a ≠ 15) : ∀ k, jCl σ k a = σ a
  | 0 => rfl
  | k + 1 => by
    rw [jCl]
    split
    · rw [jCl1, sW_nk _ _ _ h3, sW_nk _ _ _ h2, sW_nk _ _ _ h1]
      exact jCl_ne σ h1 h2 h3 k
    · exact jCl_ne σ h1 h2 h3 k
def jOfCell (σ : Nat → Nat → Int32) (P c : Nat) (k : Nat) : Int32 := match k with
  | 0 => σ 11 c
  | 1 => σ 12 c
  | 2 => bI (jOpen σ c)
  | 3 => jCnt (fun i => decide (σ 13 i = nI c)) P
  | _ => jToAsk σ P (nI c)
def jOfPerson (σ : Nat → Nat → Int32) (p : Nat) (k : Nat) : Int32 := match k with
  | 0 => nI (jPc σ p / 2)
  | 1 => nI (jPc σ p % 2)
  | 2 => jFat σ p (nI 0)
  | 3 => σ 15 p
  | 4 => bI (jCan σ p (nI 0))
  | _ => σ 16 p
def jOfIv (σ : Nat → Nat → Int32) (i : Nat) (k : Nat) : Int32 := match k with
  | 0 => σ 17 i
  | 1 => σ 19 i
  | 2 => σ 20 i
  | 3 => σ 21 i
  | 4 => σ 22 i
  | 5 => σ 24 i
  | _ => bI (jDirty σ i)
def jMany (σ : Nat → Nat → Int32) (N P : Nat) (k : Nat) : Int32 := match k with
  | 0 => σ 1 0
  | 1 => σ 3 0
  | 2 => jCnt (fun i => decide (σ 19 i = nI 0)) N
  | 3 => jCnt (fun i => decide (σ 19 i = nI 1)) N
  | 4 => jCnt (fun i => decide (σ 19 i = nI 2)) N
  | 5 => jCnt (fun i => decide (σ 19 i = nI 3)) N
  | 6 => jSum (σ 11) 6
  | 7 => jCnt (jOpen σ) 6
  | 8 => jAllAsk σ P
  | 9 => jSum (σ 15) P
  | 10 => σ 7 0
  | _ => σ 3 1
def jClnC (σ : Nat → Nat → Int32) (N c : Nat) : Int32 := jCnt (fun i => decide (σ 18 i = nI c) && jDirty σ i) N
def jClnAll (σ : Nat → Nat → Int32) (N : Nat) : Int32 := jSum (fun c => jClnC σ N c) 6
def jCleaned (σ : Nat → Nat → Int32) (N : Nat) : Int32 := jClnAll σ N + nI 100 * jCnt (fun c => !jOpen σ c && jOpenW σ c (jClnC σ N c) (jClnAll σ N)) 6
/-- the shares of a report, of the first a ANSWERS of q -/
def jHoldA (σ : Nat → Nat → Int32) (N R q : Nat) : Nat → Nat → Nat → Int32
  | 0 => σ
  | a + 1 => sW (jHoldA σ N R q a) 26 (jPlace R q a) (jShare (jHoldA σ N R q a) 24 N q (nI a) (-1))
def jHoldQ (σ : Nat → Nat → Int32) (N R : Nat) : Nat → Nat → Nat → Int32
  | 0 => σ
  | q + 1 => jHoldA (jHoldQ σ N R q) N R q (jA (jHoldQ σ N R q) q)
theorem jHoldA_ne (σ : Nat → Nat → Int32) (N R q : Nat) {x : Nat} (h : x ≠ 26) : ∀ a, jHoldA σ N R q a x = σ x
  | 0 => rfl
  | a + 1 => (sW_nk _ _ _ h).trans (jHoldA_ne σ N R q h a)
theorem jHoldQ_ne (σ : Nat → Nat → Int32) (N R : Nat) {x : Nat} (h : x ≠ 26) : ∀ q, jHoldQ σ N R q x = σ x
  | 0 => rfl
  | q + 1 => (jHoldA_ne _ N R q h _).trans (jHoldQ_ne σ N R h q)
theorem jHas_t {σ : Nat → Nat → Int32} {Q q : Nat} (hQz : σ 1 0 = nI Q) (hq : q < Q) (hQ : Q ≤ 10) : jHas σ (nI q) = true := by
  unfold jHas
  rw [hQz]
  simp only [nI_lt hq (show Q < 2 ^ 31 by omega), nI_pos (show q < 2 ^ 31 by omega), decide_true, decide_false, Bool.not_false, Bool.and_self]
theorem jOff_t {σ : Nat → Nat → Int32} {Q q a : Nat} (hQz : σ 1 0 = nI Q) (hq : q < Q) (hQ : Q ≤ 10) (hA : Nn (σ 8 q) 6) (ha : a < jA σ q) : (jHas σ (nI q) && !decide (nI a < 0) && decide (nI a < σ 8 q)) = true := by
  have h5 : jA σ q < 6 := hA.2
  rw [jHas_t hQz hq hQ, hA.1]
  simp only [nI_lt ha (show jA σ q < 2 ^ 31 by omega), nI_pos (show a < 2 ^ 31 by omega), decide_false, Bool.not_false, Bool.and_self, Bool.true_and]
  exact decide_eq_true (nI_lt ha (show jA σ q < 2 ^ 31 by omega))
/-- a checksum's steps -/
def jDg (f : Nat → Int32) (d : Int64) : Nat → Int64
  | 0 => d
  | k + 1 => jDg f d k * 31 + (f k).toInt64
def jDgI (f : Nat → Int64 → Int64) (d : Int64) : Nat → Int64
  | 0 => d
  | k + 1 => f k (jDgI f d k)
theorem jDg_0 (f : Nat → Int32) (d : Int64) : d = jDg f d 0 := rfl
theorem jDg_s (f : Nat → Int32) (d : Int64) (k : Nat) : jDg f d k * 31 + (f k).toInt64 = jDg f d (k + 1) := rfl
theorem jDgI_0 (f : Nat → Int64 → Int64) (d : Int64) : d = jDgI f d 0 := rfl
theorem jDgI_s (f : Nat → Int64 → Int64) (d : Int64) (k : Nat) : f k (jDgI f d k) = jDgI f d (k + 1) := rfl
def jDgCells (σ : Nat → Nat → Int32) (P : Nat) (d : Int64) : Int64 := jDgI (fun a d => jDgI (fun b d => jDg (fun k => jOfCell σ P (a * 2 + b) k) d 5) d 2) d 3
def jDgPeople (σ : Nat → Nat → Int32) (P : Nat) (d : Int64) : Int64 := jDgI (fun p d => jDg (fun k => jOfPerson σ p k) d 6) d P
def jDgIvs (σ : Nat → Nat → Int32) (N Q : Nat) (d : Int64) : Int64 := jDgI (fun i d => jDg (fun q => jGiven σ i q) (jDg (fun k => jOfIv σ i k) d 7) Q) d N
/-- the state behind the shortest ways of the first k QUESTIONS -/
def jStQ (σ : Nat → Nat → Int32) (Q : Nat) : Nat → Nat → Nat → Int32
  | 0 => σ
  | q + 1 => jSteps (jStQ σ Q q) Q (Q - q)
theorem jStQ_ne (σ : Nat → Nat → Int32) (Q : Nat) {a : Nat} (h : a ≠ 10) : ∀ k, jStQ σ Q k a = σ a
  | 0 => rfl
  | k + 1 => (jSteps_ne _ Q h _).trans (jStQ_ne σ Q h k)
theorem jWay_StQ (σ : Nat → Nat → Int32) (Q k q a : Nat) : jWay (jStQ σ Q k) q a = jWay σ q a := by
  unfold jWay jEnd
  rw [jStQ_ne σ Q (by decide), jStQ_ne σ Q (by decide)]
def jDgQs (σ : Nat → Nat → Int32) (N Q : Nat) (d : Int64) : Nat → Int64
  | 0 => d
  | q + 1 => jDg (fun a => jShare (jStQ σ Q q) 24 N q (nI a) (-1)) (jDgQs σ N Q d q) (jA σ q) * 31 + (jShort (jStQ σ Q q) Q q).toInt64
def jDigest (σ : Nat → Nat → Int32) (N P Q : Nat) : Int64 :=
  (((jDgQs (σ) N Q (jDgIvs σ N Q (jDgPeople σ P (jDgCells σ P (jDg (fun k => jMany σ N P k) 58114 12)))) Q * 31 + (jNxt (jStQ σ Q Q) (nI 0) P).toInt64) * 31 + (jFar (jStQ σ Q Q) 24 N 5).toInt64) * 31 + (jCleaned (jStQ σ Q Q) N).toInt64) * 31 + (jNxt (jStQ σ Q Q) (nI 3) P).toInt64
end FUN3
