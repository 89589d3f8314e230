section PU3
/-! the WEIGHTS as a function of who is COMPLETE, of which CELL, of the MARGINS -/
def wSum (cell : Nat → Nat) (w : Nat → Int32) (N g : Nat) : Int32 := jSumIf (fun i => jIsIn (cell i) g) w N
def wScale (cell : Nat → Nat) (w : Nat → Int32) (N g : Nat) (m : Int32) : Nat → Int32 := fun i => if 0 < wSum cell w N g ∧ jIsIn (cell i) g = true then w i * m / wSum cell w N g else w i
def wGr (cell : Nat → Nat) (M : Nat → Int32) (w : Nat → Int32) (N : Nat) : Nat → Nat → Int32
  | 0 => w
  | g + 1 => wScale cell (wGr cell M w N g) N g (M g)
def wRd (cell : Nat → Nat) (M : Nat → Int32) (w : Nat → Int32) (N : Nat) : Nat → Nat → Int32
  | 0 => w
  | k + 1 => wGr cell M (wRd cell M w N k) N 5
def w0 (c : Nat → Bool) : Nat → Int32 := fun i => if c i then nI 1000 else nI 0
def wAll (c : Nat → Bool) (cell : Nat → Nat) (M : Nat → Int32) (N n : Nat) : Nat → Int32 := wRd cell M (w0 c) N n
theorem jSumIf_congr {p q : Nat → Bool} {f g : Nat → Int32} : ∀ n, (∀ i, i < n → p i = q i ∧ f i = g i) → jSumIf p f n = jSumIf q g n
  | 0, _ => rfl
  | n + 1, h => by rw [jSumIf, jSumIf, jSumIf_congr n (fun i hi => h i (by omega)), (h n (by omega)).1, (h n (by omega)).2]
theorem jSc_at (σ : Nat → Nat → Int32) (r g : Nat) (m s : Int32) (hr : r ≠ 18) : ∀ k i, jSc σ r g m s k r i = if i < k ∧ jIsIn (jC σ i) g = true then σ r i * m / s else σ r i
  | 0, i => by simp [jSc]
  | k + 1, i => by
    rw [jSc]
    by_cases e : i = k
    · subst e
      have h0 := jSc_at σ r g m s hr i i
      rw [if_neg (by omega)] at h0
      split
      · rename_i hin
        rw [sW_at, if_pos ⟨by omega, hin⟩, h0]
      · rename_i hin
        rw [if_neg (fun h => hin h.2), h0]
    · have h0 := jSc_at σ r g m s hr k i
      have hk : (i < k + 1 ∧ jIsIn (jC σ i) g = true) ↔ (i < k ∧ jIsIn (jC σ i) g = true) := by
        constructor
        · rintro ⟨h1, h2⟩
          exact ⟨by omega, h2⟩
        · rintro ⟨h1, h2⟩
          exact ⟨by omega, h2⟩
      simp only [hk]
      split
      · rw [sW_ni _ _ _ e, h0]
      · exact h0
theorem jMargin_dep {σ τ : Nat → Nat → Int32} (h : ∀ c, c < 6 → σ 11 c = τ 11 c) (g : Nat) : jMargin σ g = jMargin τ g := by
  unfold jMargin
  rw [jSumIf_congr 6 (fun c hc => ⟨rfl, h c hc⟩)]
theorem jScale_w {σ : Nat → Nat → Int32} {r N g : Nat} {m : Int32} (hr : r ≠ 18) {cell : Nat → Nat} {w : Nat → Int32} (hc : ∀ i, i < N → jC σ i = cell i) (hw : ∀ i, i < N → σ r i = w i) : ∀ i, i < N → jScale σ r N g m r i = wScale cell w N g m i := by
  intro i hi
  have hs : jSumG σ r N g = wSum cell w N g := jSumIf_congr N (fun j hj => ⟨by rw [hc j hj], hw j hj⟩)
  unfold jScale wScale
  rw [hs]
  by_cases h : 0 < wSum cell w N g
  · rw [if_pos h, jSc_at σ r g m _ hr N i, hc i hi, hw i hi]
    simp only [h, hi, true_and]
  · rw [if_neg h, if_neg (fun q => h q.1), hw i hi]
theorem jGr_w {σ : Nat → Nat → Int32} {r N : Nat} (hr : r ≠ 18) (hr2 : r ≠ 11) {cell : Nat → Nat} {M : Nat → Int32} {w : Nat → Int32} (hc : ∀ i, i < N → jC σ i = cell i) (hM : ∀ g, g < 5 → jMargin σ g = M g) (hw : ∀ i, i < N → σ r i = w i) : ∀ g, g ≤ 5 → ∀ i, i < N → jGr σ r N g r i = wGr cell M w N g i
  | 0, _ => hw
  | g + 1, hg => by
    intro i hi
    rw [jGr, wGr, ← hM g (by omega), ← jMargin_dep (σ := jGr σ r N g) (τ := σ) (fun c _ => by rw [jGr_ne σ N (Ne.symm hr2)]) g]
    exact jScale_w hr (fun j hj => by unfold jC; rw [jGr_ne σ N (Ne.symm hr)]; exact hc j hj) (jGr_w hr hr2 hc hM hw g (by omega)) i hi
theorem jRd_w {σ : Nat → Nat → Int32} {r N : Nat} (hr : r ≠ 18) (hr2 : r ≠ 11) {cell : Nat → Nat} {M : Nat → Int32} {w : Nat → Int32} (hc : ∀ i, i < N → jC σ i = cell i) (hM : ∀ g, g < 5 → jMargin σ g = M g) (hw : ∀ i, i < N → σ r i = w i) : ∀ k, ∀ i, i < N → jRd σ r N k r i = wRd cell M w N k i
  | 0 => hw
  | k + 1 => by
    intro i hi
    rw [jRd, wRd]
    exact jGr_w hr hr2 (fun j hj => by unfold jC; rw [jRd_ne σ N (Ne.symm hr)]; exact hc j hj) (fun g hg => by rw [jMargin_dep (fun c _ => by rw [jRd_ne σ N (Ne.symm hr2)]) g]; exact hM g hg) (jRd_w hr hr2 hc hM hw k) 5 (Nat.le_refl 5) i hi
theorem jW0_at (σ : Nat → Nat → Int32) (r : Nat) : ∀ k i, jW0 σ r k r i = if i < k then (if σ 19 i = nI 1 then nI 1000 else nI 0) else σ r i
  | 0, i => by simp [jW0]
  | k + 1, i => by
    rw [jW0]
    by_cases e : i = k
    · subst e
      rw [sW_at]
      simp
    · rw [sW_ni _ _ _ e, jW0_at σ r k i]
      simp only [show (i < k + 1) ↔ (i < k) by omega]
theorem jWeigh_w (σ : Nat → Nat → Int32) {r : Nat} (hr : r ≠ 18) (hr2 : r ≠ 11) (N n : Nat) {c : Nat → Bool} {cell : Nat → Nat} {M : Nat → Int32} (hs : ∀ i, i < N → isS σ 1 i = c i) (hc : ∀ i, i < N → jC σ i = cell i) (hM : ∀ g, g < 5 → jMargin σ g = M g) : ∀ i, i < N → jWeigh σ r N n r i = wAll c cell M N n i := by
  unfold jWeigh wAll
  refine jRd_w hr hr2 (fun j hj => ?_) (fun g hg => ?_) (fun i hi => ?_) n
  · unfold jC
    rw [jW0_ne σ (Ne.symm hr)]
    exact hc j hj
  · rw [jMargin_dep (fun c _ => by rw [jW0_ne σ (Ne.symm hr2)]) g]
    exact hM g hg
  · rw [jW0_at, if_pos hi]
    unfold w0
    rw [← hs i hi]
    unfold isS
    simp only [decide_eq_true_eq]
/-- outside of the INTERVIEWS nothing is written -/
theorem jSc_out (σ : Nat → Nat → Int32) (r g : Nat) (m s : Int32) (hr : r ≠ 18) {k i : Nat} (h : k ≤ i) : jSc σ r g m s k r i = σ r i := by
  rw [jSc_at σ r g m s hr, if_neg (by omega)]
theorem jScale_out (σ : Nat → Nat → Int32) (r N g : Nat) (m : Int32) (hr : r ≠ 18) {i : Nat} (h : N ≤ i) : jScale σ r N g m r i = σ r i := by
  unfold jScale
  split
  · exact jSc_out σ r g m _ hr h
  · rfl
theorem jGr_out (σ : Nat → Nat → Int32) (r N : Nat) (hr : r ≠ 18) {i : Nat} (h : N ≤ i) : ∀ g, jGr σ r N g r i = σ r i
  | 0 => rfl
  | g + 1 => (jScale_out _ r N g _ hr h).trans (jGr_out σ r N hr h g)
theorem jRd_out (σ : Nat → Nat → Int32) (r N : Nat) (hr : r ≠ 18) {i : Nat} (h : N ≤ i) : ∀ k, jRd σ r N k r i = σ r i
  | 0 => rfl
  | k + 1 => (jGr_out _ r N hr h 5).trans (jRd_out σ r N hr h k)
theorem jWeigh_out (σ : Nat → Nat → Int32) (r N n : Nat) (hr : r ≠ 18) {i : Nat} (h : N ≤ i) : jWeigh σ r N n r i = σ r i := by
  rw [jWeigh, jRd_out _ r N hr h, jW0_at, if_neg (by omega)]
/-! bounds -/
theorem wSum_sZ {cell : Nat → Nat} {w : Nat → Int32} {N g : Nat} (hN : N ≤ 40) (hw : ∀ i, i < N → 0 ≤ (w i).toInt ∧ (w i).toInt ≤ 27000) : (wSum cell w N g).toInt = sZ (fun i => if jIsIn (cell i) g = true then (w i).toInt else 0) N ∧ 0 ≤ (wSum cell w N g).toInt ∧ (wSum cell w N g).toInt ≤ 1080000 := by
  have e : (wSum cell w N g).toInt = sZ (fun i => if jIsIn (cell i) g = true then (w i).toInt else 0) N := by
    unfold wSum
    rw [jSumIf_jSum, jSum_sZ (a := 0) (b := 27000) (by omega) (by omega) N (fun i hi => ?_) (by omega) (by omega)]
    · exact sZ_congr N (fun i hi => by split <;> rfl)
    · split
      · exact hw i hi
      · exact ⟨by decide, by decide⟩
  have b := sZ_bound (f := fun i => if jIsIn (cell i) g = true then (w i).toInt else 0) (a := 0) (b := 27000) N (fun i hi => by
    split
    · exact hw i hi
    · omega)
  rw [e]
  exact ⟨rfl, by omega, by omega⟩
theorem wScale_ok {cell : Nat → Nat} {w : Nat → Int32} {N g : Nat} {m : Int32} (hN : N ≤ 40) (hm : 0 ≤ m.toInt ∧ m.toInt ≤ 27000) (hw : ∀ i, i < N → 0 ≤ (w i).toInt ∧ (w i).toInt ≤ 27000) : ∀ i, i < N → (0 ≤ (wScale cell w N g m i).toInt ∧ (wScale cell w N g m i).toInt ≤ 27000) ∧ (w i = 0 → wScale cell w N g m i = 0) := by
  intro i hi
  obtain ⟨hs, hs0, hs1⟩ := wSum_sZ (cell := cell) (g := g) hN hw
  unfold wScale
  split
  · rename_i h
    obtain ⟨h1, h2⟩ := h
    rw [tI_lt, tI_0] at h1
    obtain ⟨hw0, hw1⟩ := hw i hi
    have hle : (w i).toInt ≤ (wSum cell w N g).toInt := by
      rw [hs]
      have := sZ_ge_one (f := fun i => if jIsIn (cell i) g = true then (w i).toInt else 0) (k := i) N hi (fun j hj => by
        split
        · exact (hw j hj).1
        · omega)
      simp only [h2, if_true] at this
      exact this
    have hp0 : 0 ≤ (w i).toInt * m.toInt := Int.mul_nonneg hw0 hm.1
    have hp1 : (w i).toInt * m.toInt ≤ 27000 * 27000 := Int.mul_le_mul hw1 hm.2 hm.1 (by omega)
    have hmul : (w i * m).toInt = (w i).toInt * m.toInt := tI_mul (by omega) (by omega)
    have hdiv : (w i * m / wSum cell w N g).toInt = (w i).toInt * m.toInt / (wSum cell w N g).toInt := by rw [tI_div (by rw [hmul]; exact hp0) h1, hmul]
    refine ⟨⟨?_, ?_⟩, fun h0 => ?_⟩
    · rw [hdiv]
      exact Int.ediv_nonneg hp0 (by omega)
    · rw [hdiv]
      have hp2 : (w i).toInt * m.toInt ≤ (wSum cell w N g).toInt * m.toInt := Int.mul_le_mul_of_nonneg_right hle hm.1
      have h3 : (w i).toInt * m.toInt / (wSum cell w N g).toInt ≤ (wSum cell w N g).toInt * m.toInt / (wSum cell w N g).toInt := Int.ediv_le_ediv h1 hp2
      rw [Int.mul_ediv_cancel_left _ (by omega)] at h3
      omega
    · rw [tI_eq, hdiv, h0, tI_0]
      simp
  · exact ⟨hw i hi, fun h => h⟩
theorem wGr_ok {cell : Nat → Nat} {M : Nat → Int32} {w : Nat → Int32} {N : Nat} (hN : N ≤ 40) (hM : ∀ g, g < 5 → 0 ≤ (M g).toInt ∧ (M g).toInt ≤ 27000) (hw : ∀ i, i < N → 0 ≤ (w i).toInt ∧ (w i).toInt ≤ 27000) : ∀ g, g ≤ 5 → ∀ i, i < N → (0 ≤ (wGr cell M w N g i).toInt ∧ (wGr cell M w N g i).toInt ≤ 27000) ∧ (w i = 0 → wGr cell M w N g i = 0)
  | 0, _ => fun i hi => ⟨hw i hi, fun h => h⟩
  | g + 1, hg => fun i hi => by
    have ih := wGr_ok (cell := cell) hN hM hw g (by omega)
    have h := wScale_ok (cell := cell) (g := g) hN (hM g (by omega)) (fun j hj => (ih j hj).1) i hi
    exact ⟨h.1, fun h0 => h.2 ((ih i hi).2 h0)⟩
theorem wRd_ok {cell : Nat → Nat} {M : Nat → Int32} {w : Nat → Int32} {N : Nat} (hN : N ≤ 40) (hM : ∀ g, g < 5 → 0 ≤ (M g).toInt ∧ (M g).toInt ≤ 27000) (hw : ∀ i, i < N → 0 ≤ (w i).toInt ∧ (w i).toInt ≤ 27000) : ∀ k, ∀ i, i < N → (0 ≤ (wRd cell M w N k i).toInt ∧ (wRd cell M w N k i).toInt ≤ 27000) ∧ (w i = 0 → wRd cell M w N k i = 0)
  | 0 => fun i hi => ⟨hw i hi, fun h => h⟩
  | k + 1 => fun i hi => by
    have ih := wRd_ok (cell := cell) hN hM hw k
    have h := wGr_ok (cell := cell) hN hM (fun j hj => (ih j hj).1) 5 (Nat.le_refl 5) i hi
    exact ⟨h.1, fun h0 => h.2 ((ih i hi).2 h0)⟩
theorem wAll_ok {c : Nat → Bool} {cell : Nat → Nat} {M : Nat → Int32} {N : Nat} (n : Nat) (hN : N ≤ 40) (hM : ∀ g, g < 5 → 0 ≤ (M g).toInt ∧ (M g).toInt ≤ 27000) : ∀ i, i < N → (0 ≤ (wAll c cell M N n i).toInt ∧ (wAll c cell M N n i).toInt ≤ 27000) ∧ (c i = false → wAll c cell M N n i = 0) := fun i hi => by
  have h := wRd_ok (cell := cell) (M := M) (w := w0 c) hN hM (fun j hj => by
    unfold w0
    split
    · exact ⟨by decide, by decide⟩
    · exact ⟨by decide, by decide⟩) n i hi
  exact ⟨h.1, fun h0 => h.2 (by unfold w0; rw [h0]; rfl)⟩
/-! one INTERVIEW more, that is not COMPLETE -/
theorem wSum_ext {cell : Nat → Nat} {w : Nat → Int32} {N g : Nat} (h : w N = 0) : wSum cell w (N + 1) g = wSum cell w N g := by
  unfold wSum
  rw [jSumIf, h]
  split <;> simp
theorem wScale_ext {cell : Nat → Nat} {w v : Nat → Int32} {N g : Nat} {m : Int32} (h : w N = 0) (hwv : ∀ i, i < N → w i = v i) : (∀ i, i < N → wScale cell w (N + 1) g m i = wScale cell v N g m i) ∧ wScale cell w (N + 1) g m N = 0 := by
  have hs : wSum cell w (N + 1) g = wSum cell v N g := by
    rw [wSum_ext h]
    exact jSumIf_congr N (fun i hi => ⟨rfl, hwv i hi⟩)
  refine ⟨fun i hi => ?_, ?_⟩
  · unfold wScale
    rw [hs, hwv i hi]
  · unfold wScale
    rw [hs, h]
    split
    · rename_i h1
      have h2 := h1.1
      rw [tI_lt, tI_0] at h2
      rw [Int32.zero_mul, tI_eq, tI_div (by decide) h2, tI_0]
      simp
    · rfl
theorem wGr_ext {cell : Nat → Nat} {M : Nat → Int32} {w v : Nat → Int32} {N : Nat} (h : w N = 0) (hwv : ∀ i, i < N → w i = v i) : ∀ g, (∀ i, i < N → wGr cell M w (N + 1) g i = wGr cell M v N g i) ∧ wGr cell M w (N + 1) g N = 0
  | 0 => ⟨hwv, h⟩
  | g + 1 => by
    obtain ⟨h1, h2⟩ := wGr_ext (cell := cell) (M := M) h hwv g
    exact wScale_ext h2 h1
theorem wRd_ext {cell : Nat → Nat} {M : Nat → Int32} {w v : Nat → Int32} {N : Nat} (h : w N = 0) (hwv : ∀ i, i < N → w i = v i) : ∀ k, (∀ i, i < N → wRd cell M w (N + 1) k i = wRd cell M v N k i) ∧ wRd cell M w (N + 1) k N = 0
  | 0 => ⟨hwv, h⟩
  | k + 1 => by
    obtain ⟨h1, h2⟩ := wRd_ext (cell := cell) (M := M) h hwv k
    exact wGr_ext h2 h1 5
theorem wAll_ext {c : Nat → Bool} {cell : Nat → Nat} {M : Nat → Int32} {N n : Nat} (h : c N = false) : ∀ i, i < N + 1 → wAll c cell M (N + 1) n i = if i < N then wAll c cell M N n i else 0 := by
  intro i hi
  obtain ⟨h1, h2⟩ := wRd_ext (cell := cell) (M := M) (w := w0 c) (v := w0 c) (N := N) (by unfold w0; rw [h]; rfl) (fun _ _ => rfl) n
  unfold wAll
  split
  · rename_i hlt
    exact h1 i hlt
  · rw [show i = N by omega]
    exact h2
/-- the MARGINS -/
theorem jMargin_ok {σ : Nat → Nat → Int32} (h : ∀ c, c < 6 → 0 ≤ (σ 11 c).toInt ∧ (σ 11 c).toInt ≤ 9) {g : Nat} (hg : g < 5) : 0 ≤ (jMargin σ g).toInt ∧ (jMargin σ g).toInt ≤ 27000 := by
  have h0 := h 0 (by omega)
  have h1 := h 1 (by omega)
  have h2 := h 2 (by omega)
  have h3 := h 3 (by omega)
  have h4 := h 4 (by omega)
  have h5 := h 5 (by omega)
  have key : ∃ z : Int, 0 ≤ z ∧ z ≤ 27 ∧ (jSumIf (fun c => jIsIn c g) (σ 11) 6).toInt = z := by
    rw [jSumIf_jSum, jSum_sZ (a := 0) (b := 9) (by omega) (by omega) 6 (fun i hi => by
      split
      · exact h i hi
      · exact ⟨by decide, by decide⟩) (by omega) (by omega)]
    refine ⟨_, ?_, ?_, rfl⟩
    · exact sZ_nonneg 6 (fun i hi => by
        split
        · exact (h i hi).1
        · decide)
    · rcases (show g = 0 ∨ g = 1 ∨ g = 2 ∨ g = 3 ∨ g = 4 by omega) with rfl | rfl | rfl | rfl | rfl <;> simp [sZ, jIsIn, tI_0] <;> omega
  obtain ⟨z, hz0, hz1, hz⟩ := key
  unfold jMargin
  rw [tI_mul (by rw [hz, tI_n (by omega)]; omega) (by rw [hz, tI_n (by omega)]; omega), hz, tI_n (by omega)]
  omega
end PU3
