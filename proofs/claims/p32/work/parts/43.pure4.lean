section PU4
/-- the WEIGHTS are those of now -/
def InvW (σ : Nat → Nat → Int32) (N n : Nat) : Prop := ∀ i, i < N → σ 24 i = wAll (isS σ 1) (jC σ) (jMargin σ) N n i
theorem wAll_congr {c d : Nat → Bool} {cell cell' : Nat → Nat} {M M' : Nat → Int32} {N n : Nat} (h1 : ∀ i, i < N → c i = d i) (h2 : ∀ i, i < N → cell i = cell' i) (h3 : ∀ g, g < 5 → M g = M' g) : ∀ i, i < N → wAll c cell M N n i = wAll d cell' M' N n i := by
  have hsum : ∀ (w v : Nat → Int32) (g : Nat), (∀ i, i < N → w i = v i) → wSum cell w N g = wSum cell' v N g := fun w v g h => jSumIf_congr N (fun i hi => ⟨by rw [h2 i hi], h i hi⟩)
  have hsc : ∀ (w v : Nat → Int32) (g : Nat) (m : Int32), (∀ i, i < N → w i = v i) → ∀ i, i < N → wScale cell w N g m i = wScale cell' v N g m i := fun w v g m h i hi => by
    unfold wScale
    rw [hsum w v g h, h2 i hi, h i hi]
  have hgr : ∀ (w v : Nat → Int32), (∀ i, i < N → w i = v i) → ∀ g, g ≤ 5 → ∀ i, i < N → wGr cell M w N g i = wGr cell' M' v N g i := by
    intro w v h g
    induction g with
    | zero => exact fun _ => h
    | succ g ih =>
      intro hg i hi
      rw [wGr, wGr, h3 g (by omega)]
      exact hsc _ _ g _ (ih (by omega)) i hi
  have hrd : ∀ (w v : Nat → Int32), (∀ i, i < N → w i = v i) → ∀ k, ∀ i, i < N → wRd cell M w N k i = wRd cell' M' v N k i := by
    intro w v h k
    induction k with
    | zero => exact h
    | succ k ih => exact hgr _ _ ih 5 (Nat.le_refl 5)
  exact hrd _ _ (fun i hi => by unfold w0; rw [h1 i hi]) n
theorem jWeigh_at (σ : Nat → Nat → Int32) {r : Nat} (hr : r ≠ 18) (hr2 : r ≠ 11) (N n : Nat) : ∀ i, i < N → jWeigh σ r N n r i = wAll (isS σ 1) (jC σ) (jMargin σ) N n i := jWeigh_w σ hr hr2 N n (fun _ _ => rfl) (fun _ _ => rfl) (fun _ _ => rfl)
theorem InvW_weigh (σ : Nat → Nat → Int32) (N n : Nat) : InvW (jWeigh σ 24 N n) N n := fun i hi => by
  rw [jWeigh_at σ (by decide) (by decide) N n i hi]
  refine wAll_congr (fun j _ => ?_) (fun j _ => ?_) (fun g _ => ?_) i hi
  · unfold isS; rw [jWeigh_ne σ N n (by decide)]
  · unfold jC; rw [jWeigh_ne σ N n (by decide)]
  · exact jMargin_dep (fun c _ => by rw [jWeigh_ne σ N n (by decide)]) g
theorem InvW_ok {σ : Nat → Nat → Int32} {N n : Nat} (h : InvW σ N n) (hN : N ≤ 40) (hT : ∀ c, c < 6 → 0 ≤ (σ 11 c).toInt ∧ (σ 11 c).toInt ≤ 9) : ∀ i, i < N → (0 ≤ (σ 24 i).toInt ∧ (σ 24 i).toInt ≤ 27000) ∧ (σ 19 i ≠ nI 1 → σ 24 i = 0) := fun i hi => by
  rw [h i hi]
  have h1 := wAll_ok (c := isS σ 1) (cell := jC σ) (M := jMargin σ) n hN (fun g hg => jMargin_ok hT hg) i hi
  exact ⟨h1.1, fun h2 => h1.2 (decide_eq_false h2)⟩
theorem jFar_dep {σ τ : Nat → Nat → Int32} {r r' N : Nat} (h1 : ∀ i, i < N → σ r i = τ r' i) (h2 : ∀ i, i < N → jC σ i = jC τ i) (h3 : ∀ g, jMargin σ g = jMargin τ g) : ∀ k, jFar σ r N k = jFar τ r' N k
  | 0 => rfl
  | k + 1 => by
    have hs : jSumG σ r N k = jSumG τ r' N k := jSumIf_congr N (fun i hi => ⟨by rw [h2 i hi], h1 i hi⟩)
    rw [jFar, jFar, hs, h3 k, jFar_dep h1 h2 h3 k]
/-- OFF with the ROUNDS that are told is OFF -/
theorem jFar_with {σ : Nat → Nat → Int32} {N n : Nat} (h : InvW σ N n) : jFar (jWeigh σ 25 N n) 25 N 5 = jFar σ 24 N 5 :=
  jFar_dep (fun i hi => by rw [jWeigh_at σ (by decide) (by decide) N n i hi, h i hi]) (fun i _ => by unfold jC; rw [jWeigh_ne σ N n (by decide)]) (fun g => jMargin_dep (fun c _ => by rw [jWeigh_ne σ N n (by decide)]) g) 5
/-! shares -/
theorem jCountedE (σ : Nat → Nat → Int32) (q i : Nat) : jCounted σ q (-1) i = (isS σ 1 i && !decide (jGiven σ i q = -1)) := by
  unfold jCounted isS
  simp
theorem sumIf_sZ {p : Nat → Bool} {w : Nat → Int32} {N : Nat} (hN : N ≤ 40) (hw : ∀ i, i < N → 0 ≤ (w i).toInt ∧ (w i).toInt ≤ 27000) : (jSumIf p w N).toInt = sZ (fun i => if p i = true then (w i).toInt else 0) N ∧ 0 ≤ (jSumIf p w N).toInt ∧ (jSumIf p w N).toInt ≤ 1080000 := by
  have e : (jSumIf p w N).toInt = sZ (fun i => if p i = true then (w i).toInt else 0) N := by
    rw [jSumIf_jSum, jSum_sZ (a := 0) (b := 27000) (by omega) (by omega) N (fun i hi => ?_) (by omega) (by omega)]
    · exact sZ_congr N (fun i hi => by split <;> rfl)
    · split
      · exact hw i hi
      · exact ⟨by decide, by decide⟩
  have b := sZ_bound (f := fun i => if p i = true then (w i).toInt else 0) (a := 0) (b := 27000) N (fun i hi => by
    split
    · exact hw i hi
    · omega)
  rw [e]
  exact ⟨rfl, by omega, by omega⟩
/-- parts in hundredths, each cut: together a hundred, but for what is cut -/
theorem cut_sum {W : Int} (hW : 0 < W) (x : Nat → Int) : ∀ n : Nat, 0 < n → (∀ a, a < n → 0 ≤ x a) → sZ (fun a => 100 * x a / W) n * W ≤ 100 * sZ x n ∧ 100 * sZ x n < (sZ (fun a => 100 * x a / W) n + n) * W := by
  intro n hn hx
  have h1 : ∀ m : Nat, m ≤ n → sZ (fun a => 100 * x a / W) m * W ≤ 100 * sZ x m ∧ (0 < m → 100 * sZ x m < (sZ (fun a => 100 * x a / W) m + m) * W) := by
    intro m
    induction m with
    | zero => intro _; simp [sZ]
    | succ m ih =>
      intro hm
      obtain ⟨i1, i2⟩ := ih (by omega)
      have d1 : 100 * x m / W * W ≤ 100 * x m := Int.ediv_mul_le _ (by omega)
      have d2 : 100 * x m < (100 * x m / W + 1) * W := Int.lt_ediv_add_one_mul_self _ hW
      have e1 : (sZ (fun a => 100 * x a / W) m + 100 * x m / W) * W = sZ (fun a => 100 * x a / W) m * W + 100 * x m / W * W := Int.add_mul _ _ _
      have e2 : (sZ (fun a => 100 * x a / W) m + 100 * x m / W + ((m + 1 : Nat) : Int)) * W = (sZ (fun a => 100 * x a / W) m + m) * W + (100 * x m / W + 1) * W := by
        rw [← Int.add_mul]
        congr 1
        omega
      refine ⟨?_, fun _ => ?_⟩
      · rw [sZ, sZ, e1]
        omega
      · rw [sZ, sZ, e2]
        by_cases h0 : 0 < m
        · have := i2 h0
          omega
        · have hm0 : m = 0 := by omega
          subst hm0
          simp [sZ] at *
          omega
  exact ⟨(h1 n (Nat.le_refl n)).1, (h1 n (Nat.le_refl n)).2 hn⟩
theorem share_sums {σ : Nat → Nat → Int32} {N q A : Nat} (hN : N ≤ 40) (hw : ∀ i, i < N → 0 ≤ (σ 24 i).toInt ∧ (σ 24 i).toInt ≤ 27000) (hA : 2 ≤ A) (hA5 : A ≤ 5) (hg : ∀ i, i < N → jGiven σ i q = -1 ∨ (0 ≤ (jGiven σ i q).toInt ∧ (jGiven σ i q).toInt < A)) :
    ((∀ a, a < A → (jShare σ 24 N q (nI a) (-1)).toInt = -1) ∨
     ((∀ a, a < A → 0 ≤ (jShare σ 24 N q (nI a) (-1)).toInt ∧ (jShare σ 24 N q (nI a) (-1)).toInt ≤ 100) ∧ sZ (fun a => (jShare σ 24 N q (nI a) (-1)).toInt) A ≤ 100 ∧ 100 - (A : Int) < sZ (fun a => (jShare σ 24 N q (nI a) (-1)).toInt) A)) := by
  obtain ⟨hW, hW0, hW1⟩ := sumIf_sZ (p := jCounted σ q (-1)) hN hw
  have hpart : ∀ a, (jSumIf (fun i => jCounted σ q (-1) i && decide (jGiven σ i q = nI a)) (σ 24) N).toInt = sZ (fun i => if (jCounted σ q (-1) i && decide (jGiven σ i q = nI a)) = true then (σ 24 i).toInt else 0) N ∧ 0 ≤ (jSumIf (fun i => jCounted σ q (-1) i && decide (jGiven σ i q = nI a)) (σ 24) N).toInt ∧ (jSumIf (fun i => jCounted σ q (-1) i && decide (jGiven σ i q = nI a)) (σ 24) N).toInt ≤ 1080000 := fun a => sumIf_sZ hN hw
  by_cases hpos : 0 < (jSumIf (jCounted σ q (-1)) (σ 24) N).toInt
  · right
    have hsum : sZ (fun a => sZ (fun i => if (jCounted σ q (-1) i && decide (jGiven σ i q = nI a)) = true then (σ 24 i).toInt else 0) N) A = sZ (fun i => if jCounted σ q (-1) i = true then (σ 24 i).toInt else 0) N := by
      rw [sZ_swap]
      refine sZ_congr N (fun i hi => ?_)
      by_cases hc : jCounted σ q (-1) i = true
      · rw [if_pos hc]
        have hne : ¬ jGiven σ i q = -1 := by
          rw [jCountedE] at hc
          simp at hc
          exact hc.2
        obtain ⟨g0, g1⟩ := (hg i hi).resolve_left hne
        have he : jGiven σ i q = nI (jGiven σ i q).toInt.toNat := nI_of_toInt (by omega)
        refine Eq.trans (sZ_congr A (fun a ha => ?_)) (sZ_pick (c := (jGiven σ i q).toInt.toNat) (m := A) (σ 24 i).toInt (by omega))
        have : (jGiven σ i q = nI a) ↔ ((jGiven σ i q).toInt.toNat = a) := by
          rw [he, nI_eq (by omega) (by omega), ← he]
        simp only [hc, Bool.true_and, decide_eq_true_eq, this]
      · rw [if_neg hc]
        refine sZ_const0 A (fun a _ => ?_)
        rw [if_neg (fun h => hc (by rw [Bool.and_eq_true] at h; exact h.1))]
    have hsh : ∀ a, (jShare σ 24 N q (nI a) (-1)).toInt = 100 * (jSumIf (fun i => jCounted σ q (-1) i && decide (jGiven σ i q = nI a)) (σ 24) N).toInt / (jSumIf (jCounted σ q (-1)) (σ 24) N).toInt := by
      intro a
      obtain ⟨-, p0, p1⟩ := hpart a
      have hm : (nI 100 * jSumIf (fun i => jCounted σ q (-1) i && decide (jGiven σ i q = nI a)) (σ 24) N).toInt = 100 * (jSumIf (fun i => jCounted σ q (-1) i && decide (jGiven σ i q = nI a)) (σ 24) N).toInt := by
        rw [tI_mul (by rw [tI_n (by omega)]; omega) (by rw [tI_n (by omega)]; omega), tI_n (by omega)]
        rfl
      unfold jShare
      rw [if_pos (by rw [tI_lt, tI_0]; exact hpos), tI_div (by rw [hm]; omega) hpos, hm]
    obtain ⟨c1, c2⟩ := cut_sum hpos (fun a => (jSumIf (fun i => jCounted σ q (-1) i && decide (jGiven σ i q = nI a)) (σ 24) N).toInt) A (by omega) (fun a _ => (hpart a).2.1)
    have hS : sZ (fun a => (jShare σ 24 N q (nI a) (-1)).toInt) A = sZ (fun a => 100 * (jSumIf (fun i => jCounted σ q (-1) i && decide (jGiven σ i q = nI a)) (σ 24) N).toInt / (jSumIf (jCounted σ q (-1)) (σ 24) N).toInt) A := sZ_congr A (fun a _ => hsh a)
    have hX : sZ (fun a => (jSumIf (fun i => jCounted σ q (-1) i && decide (jGiven σ i q = nI a)) (σ 24) N).toInt) A = (jSumIf (jCounted σ q (-1)) (σ 24) N).toInt := by
      rw [hW, ← hsum]
      exact sZ_congr A (fun a _ => (hpart a).1)
    rw [hX] at c1 c2
    rw [← hS] at c1 c2
    have l1 : sZ (fun a => (jShare σ 24 N q (nI a) (-1)).toInt) A ≤ 100 := Int.le_of_mul_le_mul_right c1 hpos
    have l2 : (100 : Int) < sZ (fun a => (jShare σ 24 N q (nI a) (-1)).toInt) A + A := Int.lt_of_mul_lt_mul_right c2 (by omega)
    have n0 : ∀ a, 0 ≤ (jShare σ 24 N q (nI a) (-1)).toInt := fun a => by
      rw [hsh a]
      exact Int.ediv_nonneg (by have := (hpart a).2.1; omega) (by omega)
    refine ⟨fun a ha => ⟨n0 a, ?_⟩, l1, by omega⟩
    have := sZ_ge_one (f := fun a => (jShare σ 24 N q (nI a) (-1)).toInt) (k := a) A ha (fun b _ => n0 b)
    omega
  · left
    intro a _
    unfold jShare
    rw [if_neg (by rw [tI_lt, tI_0]; exact hpos)]
    exact tI_m1
/-! who is NEXT -/
def Ahead (σ : Nat → Nat → Int32) (d : Int32) (p o : Nat) : Prop := jLack σ (jPc σ o) < jLack σ (jPc σ p) ∨ (jLack σ (jPc σ p) = jLack σ (jPc σ o) ∧ jFat σ p d < jFat σ o d)
theorem jAhead_iff (σ : Nat → Nat → Int32) (d : Int32) (p o : Nat) : jAhead σ p o d = true ↔ Ahead σ d p o := by
  unfold jAhead Ahead
  by_cases h : jLack σ (jPc σ p) = jLack σ (jPc σ o)
  · rw [if_pos h, decide_eq_true_eq]
    constructor
    · exact fun q => Or.inr ⟨h, q⟩
    · rintro (q | q)
      · rw [h, tI_lt] at q
        omega
      · exact q.2
  · rw [if_neg h, decide_eq_true_eq]
    constructor
    · exact Or.inl
    · rintro (q | q)
      · exact q
      · exact absurd q.1 h
theorem Ahead_not {σ : Nat → Nat → Int32} {d : Int32} {p o : Nat} : ¬ Ahead σ d p o ↔ (jLack σ (jPc σ p) < jLack σ (jPc σ o) ∨ (jLack σ (jPc σ p) = jLack σ (jPc σ o) ∧ ¬ jFat σ p d < jFat σ o d)) := by
  unfold Ahead
  simp only [tI_lt, tI_eq]
  omega
theorem jNxt_spec (σ : Nat → Nat → Int32) (d : Int32) : ∀ k, k ≤ 24 → (jNxt σ d k = -1 ∧ ∀ p, p < k → jCan σ p d = false) ∨
    (∃ j, j < k ∧ jNxt σ d k = nI j ∧ jCan σ j d = true ∧ ∀ p, p < k → jCan σ p d = true → ¬ Ahead σ d p j ∧ (p < j → Ahead σ d j p))
  | 0, _ => Or.inl ⟨rfl, fun _ h => absurd h (Nat.not_lt_zero _)⟩
  | k + 1, hk => by
    rcases jNxt_spec σ d k (by omega) with ⟨h1, h2⟩ | ⟨j, hj, h1, h2, h3⟩
    · by_cases hc : jCan σ k d = true
      · refine Or.inr ⟨k, by omega, ?_, hc, fun p hp hpc => ?_⟩
        · rw [jNxt, h1, hc]
          simp
        · by_cases e : p = k
          · subst e
            refine ⟨?_, fun h => absurd h (Nat.lt_irrefl _)⟩
            rw [Ahead_not]
            right
            exact ⟨rfl, by rw [tI_lt]; omega⟩
          · rw [h2 p (by omega)] at hpc
            cases hpc
      · refine Or.inl ⟨?_, fun p hp => ?_⟩
        · rw [jNxt, if_neg (by simp [hc]), h1]
        · by_cases e : p = k
          · subst e
            exact Bool.eq_false_iff.mpr hc
          · exact h2 p (by omega)
    · have hj1 : ¬ nI j = -1 := by
        rw [tI_eq, tI_n (by omega), tI_m1]
        omega
      by_cases hc : jCan σ k d = true ∧ Ahead σ d k j
      · refine Or.inr ⟨k, by omega, ?_, hc.1, fun p hp hpc => ?_⟩
        · rw [jNxt, h1, hc.1, nI_clamp (by omega), (jAhead_iff σ d k j).mpr hc.2]
          simp
        · by_cases e : p = k
          · subst e
            refine ⟨?_, fun h => absurd h (Nat.lt_irrefl _)⟩
            rw [Ahead_not]
            right
            exact ⟨rfl, by rw [tI_lt]; omega⟩
          · have h4 := (h3 p (by omega) hpc).1
            have h5 := hc.2
            rw [Ahead_not] at h4 ⊢
            unfold Ahead at h5 ⊢
            simp only [tI_lt, tI_eq] at h4 h5 ⊢
            refine ⟨?_, fun _ => ?_⟩ <;> omega
      · refine Or.inr ⟨j, by omega, ?_, h2, fun p hp hpc => ?_⟩
        · rw [jNxt, h1, nI_clamp (by omega), if_neg (fun h => hc ?_)]
          simp only [Bool.and_eq_true, Bool.or_eq_true, decide_eq_true_eq] at h
          exact ⟨h.1, (jAhead_iff σ d k j).mp (h.2.resolve_left hj1)⟩
        · by_cases e : p = k
          · subst e
            exact ⟨fun h => hc ⟨hpc, h⟩, fun h => absurd h (by omega)⟩
          · exact h3 p (by omega) hpc
end PU4
