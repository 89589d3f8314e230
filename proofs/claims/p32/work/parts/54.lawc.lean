section LWC
/-! the property's main loop -/
def LJ (P Q : Nat) (g : Nat → Int32) (N : Nat) (hel : Nat → Int32) (σ : Nat → Nat → Int32) : Prop := Inv σ N P Q 3 ∧ (∀ q, q < Q → g q = σ 8 q) ∧ (σ 7 0 = nI 0 ∨ (σ 7 0 = nI 1 ∧ ∀ k, k < Q → hel k = σ 26 (jPlace 0 k 0)))
theorem LJ_k {P Q N N' : Nat} {g hel : Nat → Int32} {σ τ : Nat → Nat → Int32} (h : LJ P Q g N hel σ) (hV : Inv τ N' P Q 3) (h8 : τ 8 = σ 8) (h7 : τ 7 = σ 7) (h26 : τ 26 = σ 26) : LJ P Q g N' hel τ :=
  ⟨hV, by rw [h8]; exact h.2.1, by rw [h7, h26]; exact h.2.2⟩
theorem LJ_day {P Q N : Nat} {g hel : Nat → Int32} {σ : Nat → Nat → Int32} (h : LJ P Q g N hel σ) : LJ P Q g N hel (jDay σ P) :=
  LJ_k h (Inv_day h.1) (jDay_ne σ P (by decide) (by decide)) (jDay_ne σ P (by decide) (by decide)) (jDay_ne σ P (by decide) (by decide))
theorem LJ_clean {P Q N : Nat} {g hel : Nat → Int32} {σ : Nat → Nat → Int32} (h : LJ P Q g N hel σ) : LJ P Q g N hel (jWeigh (jCl σ N) 24 N 3) := by
  have hr : ∀ k, k ≠ 24 → k ≠ 19 → k ≠ 12 → k ≠ 15 → jWeigh (jCl σ N) 24 N 3 k = σ k := fun k a b c d => (jWeigh_ne _ N 3 a).trans (jCl_ne σ b c d N)
  exact LJ_k h (clean_inv h.1) (hr 8 (by decide) (by decide) (by decide) (by decide)) (hr 7 (by decide) (by decide) (by decide) (by decide)) (hr 26 (by decide) (by decide) (by decide) (by decide))
theorem LJ_begin {P Q N j : Nat} {g hel : Nat → Int32} {σ : Nat → Nat → Int32} (h : LJ P Q g N hel σ) (hj : j < P) (hc : jCan σ j (nI 0) = true) (hN : N < 40) (hQ : 0 < Q) : LJ P Q g (N + 1) hel (jBegin σ N j) ∧ jCan (jBegin σ N j) j (nI 0) = false := by
  obtain ⟨b1, b2⟩ := begin_ok h.1 hj hc hN hQ
  have hr := (jBegin_rows σ N j).1
  refine ⟨LJ_k h b1 (hr 8 (by decide) (by decide) (by decide) (by decide) (by decide) (by decide) (by decide)) (hr 7 (by decide) (by decide) (by decide) (by decide) (by decide) (by decide) (by decide)) (hr 26 (by decide) (by decide) (by decide) (by decide) (by decide) (by decide) (by decide)), ?_⟩
  unfold jCan
  rw [b2]
  rfl
theorem LJ_answer {P Q N i pl a s : Nat} {g hel : Nat → Int32} {σ : Nat → Nat → Int32} (h : LJ P Q g N hel σ) (hi : i < N) (h19 : σ 19 i = nI 0) (h20 : σ 20 i = nI pl) (hpl : pl < Q) (ha : a < jA σ pl) (hs1 : 1 ≤ s) (hs99 : s ≤ 99) : LJ P Q g N hel (jAns σ N 3 i pl a (nI s)) := by
  obtain ⟨b1, -, -, -, hr⟩ := answer_ok h.1 hi h19 h20 hpl ha hs1 hs99
  exact LJ_k h b1 (hr 8 (by decide) (by decide) (by decide) (by decide) (by decide) (by decide) (by decide) (by decide)) (hr 7 (by decide) (by decide) (by decide) (by decide) (by decide) (by decide) (by decide) (by decide)) (hr 26 (by decide) (by decide) (by decide) (by decide) (by decide) (by decide) (by decide) (by decide))
/-- the held row, k of it noted -/
def helK (σ : Nat → Nat → Int32) (N : Nat) (hel : Nat → Int32) (k : Nat) : Nat → Int32 := fun j => if j < k then jShare σ 24 N j (nI 0) (-1) else hel j
theorem helK_0 (σ : Nat → Nat → Int32) (N : Nat) (hel : Nat → Int32) : hel = helK σ N hel 0 := by
  funext j
  simp [helK]
theorem helK_s (σ : Nat → Nat → Int32) (N : Nat) (hel : Nat → Int32) (k : Nat) : upd (helK σ N hel k) k (jShare σ 24 N k (nI 0) (-1)) = helK σ N hel (k + 1) := by
  funext j
  unfold upd helK
  by_cases e : j = k
  · subst e
    rw [if_pos rfl, if_pos (by omega)]
  · rw [if_neg e]
    by_cases e2 : j < k
    · rw [if_pos e2, if_pos (by omega)]
    · rw [if_neg e2, if_neg (by omega)]
theorem LJ_hold {P Q N : Nat} {g hel : Nat → Int32} {σ : Nat → Nat → Int32} (h : LJ P Q g N hel σ) : LJ P Q g N (helK σ N hel Q) (jHoldQ (sW σ 7 0 (nI (0 + 1))) N 0 Q) := by
  have hQ := h.1.1.2.2.2.2.2.1
  have hr : ∀ k, k ≠ 26 → k ≠ 7 → jHoldQ (sW σ 7 0 (nI (0 + 1))) N 0 Q k = σ k := fun k a b => (jHoldQ_ne _ N 0 a Q).trans (sW_nk _ _ _ b)
  refine ⟨Inv_dep (fun k a _ _ b => hr k b a) h.1, by rw [hr 8 (by decide) (by decide)]; exact h.2.1, Or.inr ⟨?_, fun k hk => ?_⟩⟩
  · rw [jHoldQ_ne _ N 0 (by decide) Q]
    exact sW_at _ _ _ _
  · rw [holdQ_at (fun f hf => by
        have := Inv_jA h.1.2.1 hf
        have e : jA (sW σ 7 0 (nI (0 + 1))) f = jA σ f := by
          unfold jA
          rw [sW_nk _ _ _ (by decide)]
        rw [e]
        omega) Q (Nat.le_refl Q) k hk, share_dep (fun j a _ => sW_nk _ _ _ a)]
    unfold helK
    rw [if_pos hk]
theorem cnB (p : Nat → Bool) (k : Nat) : nI (cN p k) + bI (p k) = nI (cN p (k + 1)) := by
  rw [cN]
  cases h : p k
  · rw [bI_f2, nI_add]
    simp
  · rw [bI_t2, nI_add]
    simp
theorem next_some {σ : Nat → Nat → Int32} {P : Nat} (hP : P ≤ 24) (h : ¬ jNxt σ (nI 0) P < 0) : ∃ j, j < P ∧ jNxt σ (nI 0) P = nI j := by
  rcases jNxt_or σ (nI 0) P hP with e | e
  · rw [e] at h
    exact absurd (by decide) h
  · exact ⟨_, e.2, e.1⟩
theorem run_some {σ : Nat → Nat → Int32} {N : Nat} (h : ¬ jRun σ N < 0) : ∃ r, r < N ∧ jRun σ N = nI r ∧ σ 19 r = nI 0 := by
  rcases jRun_or σ N with e | e
  · rw [e] at h
    exact absurd (by decide) h
  · exact e
/-! the checksum does not see what only rows 10 and 25 hold -/
theorem steps_dep {σ τ : Nat → Nat → Int32} {Q : Nat} (hF : InvF σ Q) (hQ : Q ≤ 10) (h9 : τ 9 = σ 9) (h1 : τ 1 = σ 1) (h8 : τ 8 = σ 8) : ∀ k, k ≤ Q → ∀ j, Q - k ≤ j → j < Q → jSteps τ Q k 10 j = jSteps σ Q k 10 j
  | 0, _, j, h1, h2 => absurd h2 (by omega)
  | k + 1, hk, j, hj1, hj2 => by
    have ih := steps_dep hF hQ h9 h1 h8 k (by omega)
    have hway : ∀ f a, jWay τ f a = jWay σ f a := fun f a => jWay_dep h9 (by rw [h1]) f a
    have hl : ∀ f, Q - k ≤ f + 1 → f < Q → ∀ a, a ≤ 5 → jLeast (jSteps τ Q k) f a = jLeast (jSteps σ Q k) f a := by
      intro f hf1 hf2 a
      induction a with
      | zero => intro _; rfl
      | succ a iha =>
        intro ha
        have e1 : jWay (jSteps τ Q k) f a = jWay (jSteps σ Q k) f a := by rw [jWay_steps, jWay_steps, hway]
        have e2 : jWay (jSteps σ Q k) f a = jWay σ f a := jWay_steps σ Q k f a
        rw [jLeast, jLeast, iha (by omega), e1]
        by_cases e3 : jWay (jSteps σ Q k) f a = -1
        · simp only [if_pos e3]
        · simp only [if_neg e3]
          have h5 := (hF.2.1 f a hf2 (by omega)).resolve_left (by rw [← e2]; exact e3)
          have h6 := clamp_toInt (x := jWay σ f a) (by omega)
          rw [e2, ih (jWay σ f a).toNatClampNeg (by omega) (by omega)]
    rw [jSteps, jSteps]
    by_cases e : j = Q - 1 - k
    · subst e
      rw [sW_at, sW_at, h8]
      have h5 := (Inv_jA hF hj2).2.2.1
      unfold jA at h5
      exact hl _ (by omega) hj2 _ h5
    · rw [sW_ni _ _ _ e, sW_ni _ _ _ e]
      exact ih j (by omega) hj2
theorem short_dep {σ τ : Nat → Nat → Int32} {Q q : Nat} (hF : InvF σ Q) (hQ : Q ≤ 10) (hq : q < Q) (h9 : τ 9 = σ 9) (h1 : τ 1 = σ 1) (h8 : τ 8 = σ 8) : jShort τ Q q = jShort σ Q q := by
  unfold jShort
  exact steps_dep hF hQ h9 h1 h8 (Q - q) (by omega) q (by omega) hq
theorem jDg_congr {f g : Nat → Int32} (d : Int64) : ∀ n, (∀ k, k < n → f k = g k) → jDg f d n = jDg g d n
  | 0, _ => rfl
  | n + 1, h => by rw [jDg, jDg, jDg_congr d n (fun k hk => h k (by omega)), h n (by omega)]
theorem jDgI_congr {f g : Nat → Int64 → Int64} (d : Int64) : ∀ n, (∀ k, k < n → ∀ d, f k d = g k d) → jDgI f d n = jDgI g d n
  | 0, _ => rfl
  | n + 1, h => by rw [jDgI, jDgI, jDgI_congr d n (fun k hk => h k (by omega)), h n (by omega)]
theorem open_dep {σ τ : Nat → Nat → Int32} (h12 : τ 12 = σ 12) (h11 : τ 11 = σ 11) (h2 : τ 2 = σ 2) : jOpenW τ = jOpenW σ := by
  funext c f fa
  unfold jOpenW
  rw [h12, h11, h2]
theorem can_dep {σ τ : Nat → Nat → Int32} (h : ∀ k, k ≠ 10 → k ≠ 25 → τ k = σ k) : jCan τ = jCan σ := by
  funext p d
  unfold jCan jTaken jFat jOpen jPc
  rw [open_dep (h 12 (by decide) (by decide)) (h 11 (by decide) (by decide)) (h 2 (by decide) (by decide)), h 16 (by decide) (by decide), h 4 (by decide) (by decide), h 19 (by decide) (by decide), h 14 (by decide) (by decide), h 13 (by decide) (by decide)]
theorem nxt_dep {σ τ : Nat → Nat → Int32} (h : ∀ k, k ≠ 10 → k ≠ 25 → τ k = σ k) (d : Int32) : ∀ k, jNxt τ d k = jNxt σ d k
  | 0 => rfl
  | k + 1 => by
    have e : jAhead τ = jAhead σ := by
      funext p o d
      unfold jAhead jLack jPc jFat
      rw [h 11 (by decide) (by decide), h 12 (by decide) (by decide), h 13 (by decide) (by decide), h 14 (by decide) (by decide)]
    rw [jNxt, jNxt, nxt_dep h d k, can_dep h, e]
theorem dirty_dep {σ τ : Nat → Nat → Int32} (h : ∀ k, k ≠ 10 → k ≠ 25 → τ k = σ k) : jDirty τ = jDirty σ := by
  funext i
  exact jDirty_dep (by rw [h 19 (by decide) (by decide)]) (h 21 (by decide) (by decide)) (h 22 (by decide) (by decide)) (h 23 (by decide) (by decide))
theorem toAsk_dep {σ τ : Nat → Nat → Int32} (h : ∀ k, k ≠ 10 → k ≠ 25 → τ k = σ k) : jToAsk τ = jToAsk σ := by
  funext P c
  unfold jToAsk
  rw [can_dep h, h 13 (by decide) (by decide)]
theorem cell_dep {σ τ : Nat → Nat → Int32} (h : ∀ k, k ≠ 10 → k ≠ 25 → τ k = σ k) : jOfCell τ = jOfCell σ := by
  funext P c k
  unfold jOfCell
  have e : jOpen τ = jOpen σ := by
    funext c
    unfold jOpen
    rw [open_dep (h 12 (by decide) (by decide)) (h 11 (by decide) (by decide)) (h 2 (by decide) (by decide))]
  rw [e, toAsk_dep h, h 11 (by decide) (by decide), h 12 (by decide) (by decide), h 13 (by decide) (by decide)]
theorem person_dep {σ τ : Nat → Nat → Int32} (h : ∀ k, k ≠ 10 → k ≠ 25 → τ k = σ k) : jOfPerson τ = jOfPerson σ := by
  funext p k
  unfold jOfPerson jFat jPc
  rw [can_dep h, h 13 (by decide) (by decide), h 14 (by decide) (by decide), h 15 (by decide) (by decide), h 16 (by decide) (by decide)]
theorem iv_dep {σ τ : Nat → Nat → Int32} (h : ∀ k, k ≠ 10 → k ≠ 25 → τ k = σ k) : jOfIv τ = jOfIv σ := by
  funext i k
  unfold jOfIv
  rw [dirty_dep h, h 17 (by decide) (by decide), h 19 (by decide) (by decide), h 20 (by decide) (by decide), h 21 (by decide) (by decide), h 22 (by decide) (by decide), h 24 (by decide) (by decide)]
theorem many_dep {σ τ : Nat → Nat → Int32} (h : ∀ k, k ≠ 10 → k ≠ 25 → τ k = σ k) : jMany τ = jMany σ := by
  funext N P k
  have e : jOpen τ = jOpen σ := by
    funext c
    unfold jOpen
    rw [open_dep (h 12 (by decide) (by decide)) (h 11 (by decide) (by decide)) (h 2 (by decide) (by decide))]
  unfold jMany jAllAsk
  rw [e, toAsk_dep h, h 1 (by decide) (by decide), h 3 (by decide) (by decide), h 19 (by decide) (by decide), h 11 (by decide) (by decide), h 15 (by decide) (by decide), h 7 (by decide) (by decide)]
theorem cleaned_dep {σ τ : Nat → Nat → Int32} (h : ∀ k, k ≠ 10 → k ≠ 25 → τ k = σ k) : jCleaned τ = jCleaned σ := by
  funext N
  have e : jOpen τ = jOpen σ := by
    funext c
    unfold jOpen
    rw [open_dep (h 12 (by decide) (by decide)) (h 11 (by decide) (by decide)) (h 2 (by decide) (by decide))]
  unfold jCleaned jClnAll jClnC
  rw [e, open_dep (h 12 (by decide) (by decide)) (h 11 (by decide) (by decide)) (h 2 (by decide) (by decide)), dirty_dep h, h 18 (by decide) (by decide)]
theorem far_dep {σ τ : Nat → Nat → Int32} (h : ∀ k, k ≠ 10 → k ≠ 25 → τ k = σ k) (N : Nat) : jFar τ 24 N 5 = jFar σ 24 N 5 :=
  jFar_dep (fun i _ => by rw [h 24 (by decide) (by decide)]) (fun i _ => by unfold jC; rw [h 18 (by decide) (by decide)]) (fun g => jMargin_dep (fun c _ => by rw [h 11 (by decide) (by decide)]) g) 5
theorem shareE_dep {σ τ : Nat → Nat → Int32} (h : ∀ k, k ≠ 10 → k ≠ 25 → τ k = σ k) (N q : Nat) (a A : Int32) : jShare τ 24 N q a A = jShare σ 24 N q a A := by
  have e1 : jCounted τ q A = jCounted σ q A := by
    funext i
    unfold jCounted jGiven jC
    rw [h 19 (by decide) (by decide), h 23 (by decide) (by decide), h 18 (by decide) (by decide)]
  have e2 : ∀ i, jGiven τ i q = jGiven σ i q := fun i => by
    unfold jGiven
    rw [h 23 (by decide) (by decide)]
  unfold jShare
  simp only [e1, e2, h 24 (by decide) (by decide)]
theorem stQ_k (σ : Nat → Nat → Int32) (Q q : Nat) : ∀ k, k ≠ 10 → k ≠ 25 → jStQ σ Q q k = σ k := fun _ a _ => jStQ_ne σ Q a q
theorem dgQs_dep {σ τ : Nat → Nat → Int32} {N Q : Nat} (hF : InvF σ Q) (hQ : Q ≤ 10) (h : ∀ k, k ≠ 10 → k ≠ 25 → τ k = σ k) (d : Int64) : ∀ k, k ≤ Q → jDgQs τ N Q d k = jDgQs σ N Q d k
  | 0, _ => rfl
  | k + 1, hk => by
    have h8 := h 8 (by decide) (by decide)
    have h1 := h 1 (by decide) (by decide)
    have h9 := h 9 (by decide) (by decide)
    have e1 : jA τ k = jA σ k := by
      unfold jA
      rw [h8]
    have e2 : jShort (jStQ τ Q k) Q k = jShort (jStQ σ Q k) Q k := by
      rw [short_dep (τ := jStQ τ Q k) hF hQ (by omega) ((jStQ_ne τ Q (by decide) k).trans h9) ((jStQ_ne τ Q (by decide) k).trans h1) ((jStQ_ne τ Q (by decide) k).trans h8), short_dep (τ := jStQ σ Q k) hF hQ (by omega) (jStQ_ne σ Q (by decide) k) (jStQ_ne σ Q (by decide) k) (jStQ_ne σ Q (by decide) k)]
    rw [jDgQs, jDgQs, dgQs_dep hF hQ h d k (by omega), e1, e2, jDg_congr (g := fun a => jShare (jStQ σ Q k) 24 N k (nI a) (-1)) _ (jA σ k) (fun a _ => (shareE_dep (stQ_k τ Q k) N k (nI a) (-1)).trans ((shareE_dep h N k (nI a) (-1)).trans (shareE_dep (stQ_k σ Q k) N k (nI a) (-1)).symm))]
theorem digest_dep {σ τ : Nat → Nat → Int32} {N P Q : Nat} (hF : InvF σ Q) (hQ : Q ≤ 10) (h : ∀ k, k ≠ 10 → k ≠ 25 → τ k = σ k) : jDigest τ N P Q = jDigest σ N P Q := by
  have hs : ∀ k, k ≠ 10 → k ≠ 25 → jStQ τ Q Q k = jStQ σ Q Q k := fun k a b => by rw [jStQ_ne τ Q a Q, jStQ_ne σ Q a Q, h k a b]
  have g1 : (fun i q => jGiven τ i q) = fun i q => jGiven σ i q := by
    funext i q
    unfold jGiven
    rw [h 23 (by decide) (by decide)]
  have e1 : ∀ d, jDgCells τ P d = jDgCells σ P d := fun d => by
    unfold jDgCells
    rw [cell_dep h]
  have e2 : ∀ d, jDgPeople τ P d = jDgPeople σ P d := fun d => by
    unfold jDgPeople
    rw [person_dep h]
  have e3 : ∀ d, jDgIvs τ N Q d = jDgIvs σ N Q d := fun d => by
    unfold jDgIvs
    rw [iv_dep h]
    exact jDgI_congr d N (fun i _ d => jDg_congr _ Q (fun q _ => congrFun (congrFun g1 i) q))
  unfold jDigest
  rw [nxt_dep hs, nxt_dep hs, far_dep hs, cleaned_dep hs, many_dep h, e1, e2, e3, dgQs_dep hF hQ h _ Q (Nat.le_refl Q)]
end LWC
