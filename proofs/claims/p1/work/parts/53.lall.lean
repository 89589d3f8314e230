set_option maxRecDepth 100000 in
set_option maxHeartbeats 4000000 in
theorem law_0 {κ : VK} {l : Launch} {D : va_G} {nm : String} {cI cL cII cO : ClassId} {e0 o b : Nat} {h g : Nat → Nat} {xs : Nat → Int32} (hfl : l.stackTraces = false) (C : Cx κ l D code RL wsL_law 9 ret (TY cI cL cII cO) room_1 nm) (CXs : CxX κ b 5 xs) (ZE : EZ κ e0) (ZX9 : XZ κ TL) (kk : ∀ (w : va_W) (L : List (Option Value)), V κ 600000 7000000 w 1762 L [.int (nI 1)]) : V κ 100 2000 ((SW cI h jInit ++ [(o, .inl (cL, 1, .inr (.inl (fun _ => (0 : Int64)))))]) ++ (MF cI cII e0 g ((nI 0)))) 168 [some (.ref b), some (.ref (h 0)), some (.ref (g 0)), some (.ref o), some (.int (nI 0)), none, none, none, none] [] := by
  by_cases hx : xs 1 < nI 2 ∨ nI 5 < xs 1
  · exact law_0_x hfl C CXs ZE ZX9 hx kk
  · obtain ⟨a, h2, h5, e1⟩ := rng (by decide) (by decide) hx
    exact law_0_ok hfl C CXs ZE ZX9 h2 h5 e1 kk
set_option maxRecDepth 100000 in
set_option maxHeartbeats 4000000 in
theorem law_1 {κ : VK} {l : Launch} {D : va_G} {nm : String} {cI cL cII cO : ClassId} {e0 o b : Nat} {h g : Nat → Nat} {xs : Nat → Int32} (hfl : l.stackTraces = false) (C : Cx κ l D code RL wsL_law 9 ret (TY cI cL cII cO) room_1 nm) (CXs : CxX κ b 5 xs) (ZE : EZ κ e0) (ZX9 : XZ κ TL) (kk : ∀ (w : va_W) (L : List (Option Value)), V κ 600000 7000000 w 1762 L [.int (nI 1)]) : V κ 100 2000 ((SW cI h jInit ++ [(o, .inl (cL, 1, .inr (.inl (fun _ => (0 : Int64)))))]) ++ (MF cI cII e0 g ((nI 0)))) 224 [some (.ref b), some (.ref (h 0)), some (.ref (g 0)), some (.ref o), some (.int (nI 0)), none, none, none, none] [] := by
  exact law_1_x hfl C CXs ZE ZX9 kk
set_option maxRecDepth 100000 in
set_option maxHeartbeats 4000000 in
theorem law_2 {κ : VK} {l : Launch} {D : va_G} {nm : String} {cI cL cII cO : ClassId} {e0 o b : Nat} {h g : Nat → Nat} {xs : Nat → Int32} (hfl : l.stackTraces = false) (C : Cx κ l D code RL wsL_law 9 ret (TY cI cL cII cO) room_1 nm) (CXs : CxX κ b 5 xs) (ZE : EZ κ e0) (ZX9 : XZ κ TL) (kk : ∀ (w : va_W) (L : List (Option Value)), V κ 600000 7000000 w 1762 L [.int (nI 1)]) : V κ 100 2000 ((SW cI h jInit ++ [(o, .inl (cL, 1, .inr (.inl (fun _ => (0 : Int64)))))]) ++ (MF cI cII e0 g ((nI 0)))) 304 [some (.ref b), some (.ref (h 0)), some (.ref (g 0)), some (.ref o), some (.int (nI 0)), none, none, none, none] [] := by
  by_cases h1 : xs 1 < nI 0
  · exact law_2_xa hfl C CXs ZE ZX9 (Or.inl h1) (Or.inl h1) kk
  by_cases h3 : nI 3 < xs 1
  · exact law_2_xa hfl C CXs ZE ZX9 (Or.inr h3) (Or.inr (Int32.lt_trans (by decide +kernel) h3)) kk
  by_cases hp : nI 0 < xs 1
  · exact law_2_xb hfl C CXs ZE ZX9 h1 h3 hp kk
  obtain ⟨a, h2, h5, e1⟩ := rng (lo := 0) (hi := 0) (by decide) (by decide) (fun z => z.elim h1 hp)
  obtain rfl : a = 0 := by omega
  exact law_2_ok hfl C CXs ZE ZX9 e1 kk
set_option maxRecDepth 100000 in
set_option maxHeartbeats 4000000 in
theorem law_3 {κ : VK} {l : Launch} {D : va_G} {nm : String} {cI cL cII cO : ClassId} {e0 o b : Nat} {h g : Nat → Nat} {xs : Nat → Int32} (hfl : l.stackTraces = false) (C : Cx κ l D code RL wsL_law 9 ret (TY cI cL cII cO) room_1 nm) (CXs : CxX κ b 5 xs) (ZE : EZ κ e0) (ZX9 : XZ κ TL) (kk : ∀ (w : va_W) (L : List (Option Value)), V κ 600000 7000000 w 1762 L [.int (nI 1)]) : V κ 100 2000 ((SW cI h jInit ++ [(o, .inl (cL, 1, .inr (.inl (fun _ => (0 : Int64)))))]) ++ (MF cI cII e0 g ((nI 0)))) 360 [some (.ref b), some (.ref (h 0)), some (.ref (g 0)), some (.ref o), some (.int (nI 0)), none, none, none, none] [] := by
  exact law_3_x hfl C CXs ZE ZX9 kk
set_option maxRecDepth 100000 in
set_option maxHeartbeats 4000000 in
theorem law_4 {κ : VK} {l : Launch} {D : va_G} {nm : String} {cI cL cII cO : ClassId} {e0 o b : Nat} {h g : Nat → Nat} {xs : Nat → Int32} (hfl : l.stackTraces = false) (C : Cx κ l D code RL wsL_law 9 ret (TY cI cL cII cO) room_1 nm) (CXs : CxX κ b 5 xs) (ZE : EZ κ e0) (ZX9 : XZ κ TL) (kk : ∀ (w : va_W) (L : List (Option Value)), V κ 600000 7000000 w 1762 L [.int (nI 1)]) : V κ 100 2000 ((SW cI h jInit ++ [(o, .inl (cL, 1, .inr (.inl (fun _ => (0 : Int64)))))]) ++ (MF cI cII e0 g ((nI 0)))) 428 [some (.ref b), some (.ref (h 0)), some (.ref (g 0)), some (.ref o), some (.int (nI 0)), none, none, none, none] [] := by
  by_cases hx : xs 1 < nI 0 ∨ nI 2 < xs 1
  · exact law_4_xa hfl C CXs ZE ZX9 hx kk
  by_cases hy : xs 2 < nI 0 ∨ nI 1 < xs 2
  · exact law_4_xb hfl C CXs ZE ZX9 (fun z => hx (Or.inl z)) (fun z => hx (Or.inr z)) hy kk
  obtain ⟨a, -, ha, e1⟩ := rng (by decide) (by decide) hx
  obtain ⟨b9, -, hb, e2⟩ := rng (by decide) (by decide) hy
  exact law_4_ok hfl C CXs ZE ZX9 (by omega) (by omega) e1 e2 kk
set_option maxRecDepth 100000 in
set_option maxHeartbeats 4000000 in
theorem law_5 {κ : VK} {l : Launch} {D : va_G} {nm : String} {cI cL cII cO : ClassId} {e0 o b : Nat} {h g : Nat → Nat} {xs : Nat → Int32} (hfl : l.stackTraces = false) (C : Cx κ l D code RL wsL_law 9 ret (TY cI cL cII cO) room_1 nm) (CXs : CxX κ b 5 xs) (ZE : EZ κ e0) (ZX9 : XZ κ TL) (kk : ∀ (w : va_W) (L : List (Option Value)), V κ 600000 7000000 w 1762 L [.int (nI 1)]) : V κ 100 2000 ((SW cI h jInit ++ [(o, .inl (cL, 1, .inr (.inl (fun _ => (0 : Int64)))))]) ++ (MF cI cII e0 g ((nI 0)))) 496 [some (.ref b), some (.ref (h 0)), some (.ref (g 0)), some (.ref o), some (.int (nI 0)), none, none, none, none] [] := by
  by_cases hx : xs 1 < nI 0 ∨ nI 2 < xs 1
  · exact law_5_xa hfl C CXs ZE ZX9 hx kk
  by_cases hy : xs 2 < nI 0 ∨ nI 1 < xs 2
  · exact law_5_xb hfl C CXs ZE ZX9 (fun z => hx (Or.inl z)) (fun z => hx (Or.inr z)) hy kk
  obtain ⟨a, -, ha, e1⟩ := rng (by decide) (by decide) hx
  obtain ⟨b9, -, hb, e2⟩ := rng (by decide) (by decide) hy
  by_cases hz : xs 3 < nI 0 ∨ nI 9 < xs 3
  · exact law_5_x2 hfl C CXs ZE ZX9 (by omega) (by omega) e1 e2 hz kk
  obtain ⟨t, -, ht, e3⟩ := rng (by decide) (by decide) hz
  exact law_5_ok hfl C CXs ZE ZX9 (by omega) (by omega) e1 e2 ht e3 kk
set_option maxRecDepth 100000 in
set_option maxHeartbeats 4000000 in
theorem law_6 {κ : VK} {l : Launch} {D : va_G} {nm : String} {cI cL cII cO : ClassId} {e0 o b : Nat} {h g : Nat → Nat} {xs : Nat → Int32} (hfl : l.stackTraces = false) (C : Cx κ l D code RL wsL_law 9 ret (TY cI cL cII cO) room_1 nm) (CXs : CxX κ b 5 xs) (ZE : EZ κ e0) (ZX9 : XZ κ TL) (kk : ∀ (w : va_W) (L : List (Option Value)), V κ 600000 7000000 w 1762 L [.int (nI 1)]) : V κ 100 2000 ((SW cI h jInit ++ [(o, .inl (cL, 1, .inr (.inl (fun _ => (0 : Int64)))))]) ++ (MF cI cII e0 g ((nI 0)))) 576 [some (.ref b), some (.ref (h 0)), some (.ref (g 0)), some (.ref o), some (.int (nI 0)), none, none, none, none] [] := by
  by_cases hx : xs 1 < nI 0 ∨ nI 3 < xs 1
  · exact law_6_x hfl C CXs ZE ZX9 hx kk
  · obtain ⟨a, h2, h5, e1⟩ := rng (by decide) (by decide) hx
    exact law_6_ok hfl C CXs ZE ZX9 h5 e1 kk
set_option maxRecDepth 100000 in
set_option maxHeartbeats 4000000 in
theorem law_7 {κ : VK} {l : Launch} {D : va_G} {nm : String} {cI cL cII cO : ClassId} {e0 o b : Nat} {h g : Nat → Nat} {xs : Nat → Int32} (hfl : l.stackTraces = false) (C : Cx κ l D code RL wsL_law 9 ret (TY cI cL cII cO) room_1 nm) (CXs : CxX κ b 5 xs) (ZE : EZ κ e0) (ZX9 : XZ κ TL) (kk : ∀ (w : va_W) (L : List (Option Value)), V κ 600000 7000000 w 1762 L [.int (nI 1)]) : V κ 100 2000 ((SW cI h jInit ++ [(o, .inl (cL, 1, .inr (.inl (fun _ => (0 : Int64)))))]) ++ (MF cI cII e0 g ((nI 0)))) 632 [some (.ref b), some (.ref (h 0)), some (.ref (g 0)), some (.ref o), some (.int (nI 0)), none, none, none, none] [] := by
  by_cases hx : xs 1 < nI 0 ∨ nI 2 < xs 1
  · exact law_7_xa hfl C CXs ZE ZX9 hx kk
  by_cases hy : xs 2 < nI 0 ∨ nI 1 < xs 2
  · exact law_7_xb hfl C CXs ZE ZX9 (fun z => hx (Or.inl z)) (fun z => hx (Or.inr z)) hy kk
  obtain ⟨a, -, ha, e1⟩ := rng (by decide) (by decide) hx
  obtain ⟨b9, -, hb, e2⟩ := rng (by decide) (by decide) hy
  by_cases hz : xs 3 < nI 0 ∨ nI 4 < xs 3
  · exact law_7_x2 hfl C CXs ZE ZX9 (by omega) (by omega) e1 e2 hz kk
  obtain ⟨t, -, ht, e3⟩ := rng (by decide) (by decide) hz
  exact law_7_ok hfl C CXs ZE ZX9 (by omega) (by omega) e1 e2 (by omega) e3 kk
set_option maxRecDepth 100000 in
set_option maxHeartbeats 4000000 in
theorem law_8 {κ : VK} {l : Launch} {D : va_G} {nm : String} {cI cL cII cO : ClassId} {e0 o b : Nat} {h g : Nat → Nat} {xs : Nat → Int32} (hfl : l.stackTraces = false) (C : Cx κ l D code RL wsL_law 9 ret (TY cI cL cII cO) room_1 nm) (CXs : CxX κ b 5 xs) (ZE : EZ κ e0) (ZX9 : XZ κ TL) (kk : ∀ (w : va_W) (L : List (Option Value)), V κ 600000 7000000 w 1762 L [.int (nI 1)]) : V κ 100 2000 ((SW cI h jInit ++ [(o, .inl (cL, 1, .inr (.inl (fun _ => (0 : Int64)))))]) ++ (MF cI cII e0 g ((nI 0)))) 712 [some (.ref b), some (.ref (h 0)), some (.ref (g 0)), some (.ref o), some (.int (nI 0)), none, none, none, none] [] := by
  exact law_8_x hfl C CXs ZE ZX9 kk
set_option maxRecDepth 100000 in
set_option maxHeartbeats 4000000 in
theorem law_11 {κ : VK} {l : Launch} {D : va_G} {nm : String} {cI cL cII cO : ClassId} {e0 o b : Nat} {h g : Nat → Nat} {xs : Nat → Int32} (hfl : l.stackTraces = false) (C : Cx κ l D code RL wsL_law 9 ret (TY cI cL cII cO) room_1 nm) (CXs : CxX κ b 5 xs) (ZE : EZ κ e0) (ZX9 : XZ κ TL) (kk : ∀ (w : va_W) (L : List (Option Value)), V κ 600000 7000000 w 1762 L [.int (nI 1)]) : V κ 100 2000 ((SW cI h jInit ++ [(o, .inl (cL, 1, .inr (.inl (fun _ => (0 : Int64)))))]) ++ (MF cI cII e0 g ((nI 0)))) 806 [some (.ref b), some (.ref (h 0)), some (.ref (g 0)), some (.ref o), some (.int (nI 0)), none, none, none, none] [] := by
  exact law_11_x hfl C CXs ZE ZX9 kk
set_option maxRecDepth 100000 in
set_option maxHeartbeats 4000000 in
theorem law_12 {κ : VK} {l : Launch} {D : va_G} {nm : String} {cI cL cII cO : ClassId} {e0 o b : Nat} {h g : Nat → Nat} {xs : Nat → Int32} (hfl : l.stackTraces = false) (C : Cx κ l D code RL wsL_law 9 ret (TY cI cL cII cO) room_1 nm) (CXs : CxX κ b 5 xs) (ZE : EZ κ e0) (ZX9 : XZ κ TL) (kk : ∀ (w : va_W) (L : List (Option Value)), V κ 600000 7000000 w 1762 L [.int (nI 1)]) : V κ 100 2000 ((SW cI h jInit ++ [(o, .inl (cL, 1, .inr (.inl (fun _ => (0 : Int64)))))]) ++ (MF cI cII e0 g ((nI 0)))) 862 [some (.ref b), some (.ref (h 0)), some (.ref (g 0)), some (.ref o), some (.int (nI 0)), none, none, none, none] [] := by
  exact law_12_x hfl C CXs ZE ZX9 kk
set_option maxRecDepth 100000 in
set_option maxHeartbeats 4000000 in
theorem law_13 {κ : VK} {l : Launch} {D : va_G} {nm : String} {cI cL cII cO : ClassId} {e0 o b : Nat} {h g : Nat → Nat} {xs : Nat → Int32} (hfl : l.stackTraces = false) (C : Cx κ l D code RL wsL_law 9 ret (TY cI cL cII cO) room_1 nm) (CXs : CxX κ b 5 xs) (ZE : EZ κ e0) (ZX9 : XZ κ TL) (kk : ∀ (w : va_W) (L : List (Option Value)), V κ 600000 7000000 w 1762 L [.int (nI 1)]) : V κ 100 2000 ((SW cI h jInit ++ [(o, .inl (cL, 1, .inr (.inl (fun _ => (0 : Int64)))))]) ++ (MF cI cII e0 g ((nI 0)))) 942 [some (.ref b), some (.ref (h 0)), some (.ref (g 0)), some (.ref o), some (.int (nI 0)), none, none, none, none] [] := by
  exact law_13_x hfl C CXs ZE ZX9 kk
set_option maxRecDepth 100000 in
set_option maxHeartbeats 4000000 in
theorem law_14 {κ : VK} {l : Launch} {D : va_G} {nm : String} {cI cL cII cO : ClassId} {e0 o b : Nat} {h g : Nat → Nat} {xs : Nat → Int32} (hfl : l.stackTraces = false) (C : Cx κ l D code RL wsL_law 9 ret (TY cI cL cII cO) room_1 nm) (CXs : CxX κ b 5 xs) (ZE : EZ κ e0) (ZX9 : XZ κ TL) (kk : ∀ (w : va_W) (L : List (Option Value)), V κ 600000 7000000 w 1762 L [.int (nI 1)]) : V κ 100 2000 ((SW cI h jInit ++ [(o, .inl (cL, 1, .inr (.inl (fun _ => (0 : Int64)))))]) ++ (MF cI cII e0 g ((nI 0)))) 1010 [some (.ref b), some (.ref (h 0)), some (.ref (g 0)), some (.ref o), some (.int (nI 0)), none, none, none, none] [] := by
  exact law_14_x hfl C CXs ZE ZX9 kk
set_option maxRecDepth 100000 in
set_option maxHeartbeats 4000000 in
theorem law_16 {κ : VK} {l : Launch} {D : va_G} {nm : String} {cI cL cII cO : ClassId} {e0 o b : Nat} {h g : Nat → Nat} {xs : Nat → Int32} (hfl : l.stackTraces = false) (C : Cx κ l D code RL wsL_law 9 ret (TY cI cL cII cO) room_1 nm) (CXs : CxX κ b 5 xs) (ZE : EZ κ e0) (ZX9 : XZ κ TL) (kk : ∀ (w : va_W) (L : List (Option Value)), V κ 600000 7000000 w 1762 L [.int (nI 1)]) : V κ 100 2000 ((SW cI h jInit ++ [(o, .inl (cL, 1, .inr (.inl (fun _ => (0 : Int64)))))]) ++ (MF cI cII e0 g ((nI 0)))) 1091 [some (.ref b), some (.ref (h 0)), some (.ref (g 0)), some (.ref o), some (.int (nI 0)), none, none, none, none] [] := by
  by_cases hx : xs 1 < nI 0 ∨ nI 11 < xs 1
  · exact law_16_x hfl C CXs ZE ZX9 hx kk
  · obtain ⟨a, h2, h5, e1⟩ := rng (by decide) (by decide) hx
    exact law_16_ok hfl C CXs ZE ZX9 (by omega) e1 kk
set_option maxRecDepth 100000 in
set_option maxHeartbeats 4000000 in
theorem law_17 {κ : VK} {l : Launch} {D : va_G} {nm : String} {cI cL cII cO : ClassId} {e0 o b : Nat} {h g : Nat → Nat} {xs : Nat → Int32} (hfl : l.stackTraces = false) (C : Cx κ l D code RL wsL_law 9 ret (TY cI cL cII cO) room_1 nm) (CXs : CxX κ b 5 xs) (ZE : EZ κ e0) (ZX9 : XZ κ TL) (kk : ∀ (w : va_W) (L : List (Option Value)), V κ 600000 7000000 w 1762 L [.int (nI 1)]) : V κ 100 2000 ((SW cI h jInit ++ [(o, .inl (cL, 1, .inr (.inl (fun _ => (0 : Int64)))))]) ++ (MF cI cII e0 g ((nI 0)))) 1147 [some (.ref b), some (.ref (h 0)), some (.ref (g 0)), some (.ref o), some (.int (nI 0)), none, none, none, none] [] := by
  by_cases hx : xs 1 < nI 0 ∨ nI 9 < xs 1
  · exact law_17_x hfl C CXs ZE ZX9 hx kk
  · obtain ⟨a, h2, h5, e1⟩ := rng (by decide) (by decide) hx
    exact law_17_ok hfl C CXs ZE ZX9 h5 e1 kk
set_option maxRecDepth 100000 in
set_option maxHeartbeats 4000000 in
theorem law_19 {κ : VK} {l : Launch} {D : va_G} {nm : String} {cI cL cII cO : ClassId} {e0 o b : Nat} {h g : Nat → Nat} {xs : Nat → Int32} (hfl : l.stackTraces = false) (C : Cx κ l D code RL wsL_law 9 ret (TY cI cL cII cO) room_1 nm) (CXs : CxX κ b 5 xs) (ZE : EZ κ e0) (ZX9 : XZ κ TL) (kk : ∀ (w : va_W) (L : List (Option Value)), V κ 600000 7000000 w 1762 L [.int (nI 1)]) : V κ 100 2000 ((SW cI h jInit ++ [(o, .inl (cL, 1, .inr (.inl (fun _ => (0 : Int64)))))]) ++ (MF cI cII e0 g ((nI 0)))) 1216 [some (.ref b), some (.ref (h 0)), some (.ref (g 0)), some (.ref o), some (.int (nI 0)), none, none, none, none] [] := by
  exact law_19_x hfl C CXs ZE ZX9 kk
set_option maxRecDepth 100000 in
set_option maxHeartbeats 4000000 in
theorem law_20 {κ : VK} {l : Launch} {D : va_G} {nm : String} {cI cL cII cO : ClassId} {e0 o b : Nat} {h g : Nat → Nat} {xs : Nat → Int32} (hfl : l.stackTraces = false) (C : Cx κ l D code RL wsL_law 9 ret (TY cI cL cII cO) room_1 nm) (CXs : CxX κ b 5 xs) (ZE : EZ κ e0) (ZX9 : XZ κ TL) (kk : ∀ (w : va_W) (L : List (Option Value)), V κ 600000 7000000 w 1762 L [.int (nI 1)]) : V κ 100 2000 ((SW cI h jInit ++ [(o, .inl (cL, 1, .inr (.inl (fun _ => (0 : Int64)))))]) ++ (MF cI cII e0 g ((nI 0)))) 1296 [some (.ref b), some (.ref (h 0)), some (.ref (g 0)), some (.ref o), some (.int (nI 0)), none, none, none, none] [] := by
  exact law_20_x hfl C CXs ZE ZX9 kk
set_option maxRecDepth 100000 in
set_option maxHeartbeats 4000000 in
theorem law_22 {κ : VK} {l : Launch} {D : va_G} {nm : String} {cI cL cII cO : ClassId} {e0 o b : Nat} {h g : Nat → Nat} {xs : Nat → Int32} (hfl : l.stackTraces = false) (C : Cx κ l D code RL wsL_law 9 ret (TY cI cL cII cO) room_1 nm) (CXs : CxX κ b 5 xs) (ZE : EZ κ e0) (ZX9 : XZ κ TL) (kk : ∀ (w : va_W) (L : List (Option Value)), V κ 600000 7000000 w 1762 L [.int (nI 1)]) : V κ 100 2000 ((SW cI h jInit ++ [(o, .inl (cL, 1, .inr (.inl (fun _ => (0 : Int64)))))]) ++ (MF cI cII e0 g ((nI 0)))) 1439 [some (.ref b), some (.ref (h 0)), some (.ref (g 0)), some (.ref o), some (.int (nI 0)), none, none, none, none] [] := by
  exact law_22_x hfl C CXs ZE ZX9 kk
set_option maxRecDepth 100000 in
set_option maxHeartbeats 4000000 in
theorem law_25 {κ : VK} {l : Launch} {D : va_G} {nm : String} {cI cL cII cO : ClassId} {e0 o b : Nat} {h g : Nat → Nat} {xs : Nat → Int32} (hfl : l.stackTraces = false) (C : Cx κ l D code RL wsL_law 9 ret (TY cI cL cII cO) room_1 nm) (CXs : CxX κ b 5 xs) (ZE : EZ κ e0) (ZX9 : XZ κ TL) (kk : ∀ (w : va_W) (L : List (Option Value)), V κ 600000 7000000 w 1762 L [.int (nI 1)]) : V κ 100 2000 ((SW cI h jInit ++ [(o, .inl (cL, 1, .inr (.inl (fun _ => (0 : Int64)))))]) ++ (MF cI cII e0 g ((nI 0)))) 1573 [some (.ref b), some (.ref (h 0)), some (.ref (g 0)), some (.ref o), some (.int (nI 0)), none, none, none, none] [] := by
  by_cases hx : xs 1 < nI 0 ∨ nI 9 < xs 1
  · exact law_25_x hfl C CXs ZE ZX9 hx kk
  · obtain ⟨a, h2, h5, e1⟩ := rng (by decide) (by decide) hx
    exact law_25_ok hfl C CXs ZE ZX9 h5 e1 kk
set_option maxRecDepth 100000 in
set_option maxHeartbeats 4000000 in
theorem law_26 {κ : VK} {l : Launch} {D : va_G} {nm : String} {cI cL cII cO : ClassId} {e0 o b : Nat} {h g : Nat → Nat} {xs : Nat → Int32} (hfl : l.stackTraces = false) (C : Cx κ l D code RL wsL_law 9 ret (TY cI cL cII cO) room_1 nm) (CXs : CxX κ b 5 xs) (ZE : EZ κ e0) (ZX9 : XZ κ TL) (kk : ∀ (w : va_W) (L : List (Option Value)), V κ 600000 7000000 w 1762 L [.int (nI 1)]) : V κ 100 2000 ((SW cI h jInit ++ [(o, .inl (cL, 1, .inr (.inl (fun _ => (0 : Int64)))))]) ++ (MF cI cII e0 g ((nI 0)))) 1629 [some (.ref b), some (.ref (h 0)), some (.ref (g 0)), some (.ref o), some (.int (nI 0)), none, none, none, none] [] := by
  by_cases hx : xs 1 < nI 0 ∨ nI 9 < xs 1
  · exact law_26_x hfl C CXs ZE ZX9 hx kk
  · obtain ⟨a, h2, h5, e1⟩ := rng (by decide) (by decide) hx
    exact law_26_ok hfl C CXs ZE ZX9 h5 e1 kk
set_option maxRecDepth 100000 in
set_option maxHeartbeats 4000000 in
theorem law_27 {κ : VK} {l : Launch} {D : va_G} {nm : String} {cI cL cII cO : ClassId} {e0 o b : Nat} {h g : Nat → Nat} {xs : Nat → Int32} (hfl : l.stackTraces = false) (C : Cx κ l D code RL wsL_law 9 ret (TY cI cL cII cO) room_1 nm) (CXs : CxX κ b 5 xs) (ZE : EZ κ e0) (ZX9 : XZ κ TL) (kk : ∀ (w : va_W) (L : List (Option Value)), V κ 600000 7000000 w 1762 L [.int (nI 1)]) : V κ 100 2000 ((SW cI h jInit ++ [(o, .inl (cL, 1, .inr (.inl (fun _ => (0 : Int64)))))]) ++ (MF cI cII e0 g ((nI 0)))) 1685 [some (.ref b), some (.ref (h 0)), some (.ref (g 0)), some (.ref o), some (.int (nI 0)), none, none, none, none] [] := by
  exact law_27_x hfl C CXs ZE ZX9 kk
set_option maxRecDepth 100000 in
set_option maxHeartbeats 4000000 in
theorem law_body {κ : VK} {l : Launch} {D : va_G} {nm : String} {cI cL cII cO : ClassId} {e0 o b : Nat} {h g : Nat → Nat} {n : Nat} {xs : Nat → Int32} (hn : n ≤ 5) (hfl : l.stackTraces = false) (C : Cx κ l D code RL wsL_law 9 ret (TY cI cL cII cO) room_1 nm) (CXs : CxX κ b n xs) (ZE : EZ κ e0) (ZX9 : XZ κ TL) (kk : ∀ (w : va_W) (L : List (Option Value)), V κ 600000 7000000 w 1762 L [.int (nI 1)]) : V κ 100 2000 ((SW cI h jInit ++ [(o, .inl (cL, 1, .inr (.inl (fun _ => (0 : Int64)))))]) ++ (MF cI cII e0 g ((nI 0)))) 23 [some (.ref b), some (.ref (h 0)), some (.ref (g 0)), some (.ref o), some (.int (nI 0)), none, none, none, none] [] := by
  refine V.iload C dL_law_23 rfl ?_
  refine V.aload_n C dL_law_25 rfl ?_
  refine V.slen C CXs dL_law_26 ?_
  refine V.iconst C (v := nI 5) dL_law_27 (by decide) ?_
  refine V.isub C dL_law_28 ?_
  rcases (show n = 0 ∨ n = 1 ∨ n = 2 ∨ n = 3 ∨ n = 4 ∨ n = 5 by omega) with rfl | rfl | rfl | rfl | rfl | rfl
  · refine V.icmp_gt C (tgt := 1761) dL_law_29 (by decide) (fun c => ?_) (fun c => absurd c (by decide +kernel))
    refine V.iconst C (v := nI 1) dL_law_1761 (by decide) ?_
    exact V.widen (k := 600000) (n := 7000000) (by decide) (by decide) (kk _ _)
  · refine V.icmp_gt C (tgt := 1761) dL_law_29 (by decide) (fun c => ?_) (fun c => absurd c (by decide +kernel))
    refine V.iconst C (v := nI 1) dL_law_1761 (by decide) ?_
    exact V.widen (k := 600000) (n := 7000000) (by decide) (by decide) (kk _ _)
  · refine V.icmp_gt C (tgt := 1761) dL_law_29 (by decide) (fun c => ?_) (fun c => absurd c (by decide +kernel))
    refine V.iconst C (v := nI 1) dL_law_1761 (by decide) ?_
    exact V.widen (k := 600000) (n := 7000000) (by decide) (by decide) (kk _ _)
  · refine V.icmp_gt C (tgt := 1761) dL_law_29 (by decide) (fun c => ?_) (fun c => absurd c (by decide +kernel))
    refine V.iconst C (v := nI 1) dL_law_1761 (by decide) ?_
    exact V.widen (k := 600000) (n := 7000000) (by decide) (by decide) (kk _ _)
  · refine V.icmp_gt C (tgt := 1761) dL_law_29 (by decide) (fun c => ?_) (fun c => absurd c (by decide +kernel))
    refine V.iconst C (v := nI 1) dL_law_1761 (by decide) ?_
    exact V.widen (k := 600000) (n := 7000000) (by decide) (by decide) (kk _ _)
  · refine V.icmp_gt C (tgt := 1761) dL_law_29 (by decide) (fun c => absurd c (by decide +kernel)) (fun c => ?_)
    refine V.aload_n C dL_law_32 rfl ?_
    refine V.iload C dL_law_33 rfl ?_
    refine V.sld C CXs (vp_in_nI (by decide) (by decide)) dL_law_35 ?_
    refine V.bipush C (v := nI 31) dL_law_36 (by decide) ?_
    refine V.iand C dL_law_38 ?_
    obtain ⟨j, hj, ej⟩ := and31 (xs (nI 0).toNatClampNeg)
    refine V.topi (y := nI j) ej ?_
    rcases (show j = 0 ∨ j = 1 ∨ j = 2 ∨ j = 3 ∨ j = 4 ∨ j = 5 ∨ j = 6 ∨ j = 7 ∨ j = 8 ∨ j = 9 ∨ j = 10 ∨ j = 11 ∨ j = 12 ∨ j = 13 ∨ j = 14 ∨ j = 15 ∨ j = 16 ∨ j = 17 ∨ j = 18 ∨ j = 19 ∨ j = 20 ∨ j = 21 ∨ j = 22 ∨ j = 23 ∨ j = 24 ∨ j = 25 ∨ j = 26 ∨ j = 27 ∨ j = 28 ∨ j = 29 ∨ j = 30 ∨ j = 31 by omega) with rfl | rfl | rfl | rfl | rfl | rfl | rfl | rfl | rfl | rfl | rfl | rfl | rfl | rfl | rfl | rfl | rfl | rfl | rfl | rfl | rfl | rfl | rfl | rfl | rfl | rfl | rfl | rfl | rfl | rfl | rfl | rfl
    · exact V.tableIn C (off := 129) (tgt := 168) dL_law_39 (by decide +kernel) (by decide +kernel) (by decide +kernel) (by decide) (law_0 hfl C CXs ZE ZX9 kk)
    · exact V.tableIn C (off := 185) (tgt := 224) dL_law_39 (by decide +kernel) (by decide +kernel) (by decide +kernel) (by decide) (law_1 hfl C CXs ZE ZX9 kk)
    · exact V.tableIn C (off := 265) (tgt := 304) dL_law_39 (by decide +kernel) (by decide +kernel) (by decide +kernel) (by decide) (law_2 hfl C CXs ZE ZX9 kk)
    · exact V.tableIn C (off := 321) (tgt := 360) dL_law_39 (by decide +kernel) (by decide +kernel) (by decide +kernel) (by decide) (law_3 hfl C CXs ZE ZX9 kk)
    · exact V.tableIn C (off := 389) (tgt := 428) dL_law_39 (by decide +kernel) (by decide +kernel) (by decide +kernel) (by decide) (law_4 hfl C CXs ZE ZX9 kk)
    · exact V.tableIn C (off := 457) (tgt := 496) dL_law_39 (by decide +kernel) (by decide +kernel) (by decide +kernel) (by decide) (law_5 hfl C CXs ZE ZX9 kk)
    · exact V.tableIn C (off := 537) (tgt := 576) dL_law_39 (by decide +kernel) (by decide +kernel) (by decide +kernel) (by decide) (law_6 hfl C CXs ZE ZX9 kk)
    · exact V.tableIn C (off := 593) (tgt := 632) dL_law_39 (by decide +kernel) (by decide +kernel) (by decide +kernel) (by decide) (law_7 hfl C CXs ZE ZX9 kk)
    · exact V.tableIn C (off := 673) (tgt := 712) dL_law_39 (by decide +kernel) (by decide +kernel) (by decide +kernel) (by decide) (law_8 hfl C CXs ZE ZX9 kk)
    · exact V.tableIn C (off := 741) (tgt := 780) dL_law_39 (by decide +kernel) (by decide +kernel) (by decide +kernel) (by decide) (law_9 hfl C CXs ZE ZX9 kk)
    · exact V.tableIn C (off := 754) (tgt := 793) dL_law_39 (by decide +kernel) (by decide +kernel) (by decide +kernel) (by decide) (law_10 hfl C CXs ZE ZX9 kk)
    · exact V.tableIn C (off := 767) (tgt := 806) dL_law_39 (by decide +kernel) (by decide +kernel) (by decide +kernel) (by decide) (law_11 hfl C CXs ZE ZX9 kk)
    · exact V.tableIn C (off := 823) (tgt := 862) dL_law_39 (by decide +kernel) (by decide +kernel) (by decide +kernel) (by decide) (law_12 hfl C CXs ZE ZX9 kk)
    · exact V.tableIn C (off := 903) (tgt := 942) dL_law_39 (by decide +kernel) (by decide +kernel) (by decide +kernel) (by decide) (law_13 hfl C CXs ZE ZX9 kk)
    · exact V.tableIn C (off := 971) (tgt := 1010) dL_law_39 (by decide +kernel) (by decide +kernel) (by decide +kernel) (by decide) (law_14 hfl C CXs ZE ZX9 kk)
    · exact V.tableIn C (off := 1039) (tgt := 1078) dL_law_39 (by decide +kernel) (by decide +kernel) (by decide +kernel) (by decide) (law_15 hfl C CXs ZE ZX9 kk)
    · exact V.tableIn C (off := 1052) (tgt := 1091) dL_law_39 (by decide +kernel) (by decide +kernel) (by decide +kernel) (by decide) (law_16 hfl C CXs ZE ZX9 kk)
    · exact V.tableIn C (off := 1108) (tgt := 1147) dL_law_39 (by decide +kernel) (by decide +kernel) (by decide +kernel) (by decide) (law_17 hfl C CXs ZE ZX9 kk)
    · exact V.tableIn C (off := 1164) (tgt := 1203) dL_law_39 (by decide +kernel) (by decide +kernel) (by decide +kernel) (by decide) (law_18 hfl C CXs ZE ZX9 kk)
    · exact V.tableIn C (off := 1177) (tgt := 1216) dL_law_39 (by decide +kernel) (by decide +kernel) (by decide +kernel) (by decide) (law_19 hfl C CXs ZE ZX9 kk)
    · exact V.tableIn C (off := 1257) (tgt := 1296) dL_law_39 (by decide +kernel) (by decide +kernel) (by decide +kernel) (by decide) (law_20 hfl C CXs ZE ZX9 kk)
    · exact V.tableIn C (off := 1356) (tgt := 1395) dL_law_39 (by decide +kernel) (by decide +kernel) (by decide +kernel) (by decide) (law_21 hfl C CXs ZE ZX9 kk)
    · exact V.tableIn C (off := 1400) (tgt := 1439) dL_law_39 (by decide +kernel) (by decide +kernel) (by decide +kernel) (by decide) (law_22 hfl C CXs ZE ZX9 kk)
    · exact V.tableIn C (off := 1480) (tgt := 1519) dL_law_39 (by decide +kernel) (by decide +kernel) (by decide +kernel) (by decide) (law_23 hfl C CXs ZE ZX9 kk)
    · exact V.tableIn C (off := 1521) (tgt := 1560) dL_law_39 (by decide +kernel) (by decide +kernel) (by decide +kernel) (by decide) (law_24 hfl C CXs ZE ZX9 kk)
    · exact V.tableIn C (off := 1534) (tgt := 1573) dL_law_39 (by decide +kernel) (by decide +kernel) (by decide +kernel) (by decide) (law_25 hfl C CXs ZE ZX9 kk)
    · exact V.tableIn C (off := 1590) (tgt := 1629) dL_law_39 (by decide +kernel) (by decide +kernel) (by decide +kernel) (by decide) (law_26 hfl C CXs ZE ZX9 kk)
    · exact V.tableIn C (off := 1646) (tgt := 1685) dL_law_39 (by decide +kernel) (by decide +kernel) (by decide +kernel) (by decide) (law_27 hfl C CXs ZE ZX9 kk)
    · exact V.tableIn C (off := 1702) (tgt := 1741) dL_law_39 (by decide +kernel) (by decide +kernel) (by decide +kernel) (by decide) (law_28 hfl C CXs ZE ZX9 kk)
    · exact V.tableOut C (tgt := 1755) dL_law_39 (by decide +kernel) (by decide) (law_tail C CXs kk (by decide) (by decide) (lsub_s rfl (lsub_n (lsub_n (lsub_n (lsub_s rfl (lsub_n (lsub_n (lsub_n (lsub_n lsub_e))))))))))
    · exact V.tableOut C (tgt := 1755) dL_law_39 (by decide +kernel) (by decide) (law_tail C CXs kk (by decide) (by decide) (lsub_s rfl (lsub_n (lsub_n (lsub_n (lsub_s rfl (lsub_n (lsub_n (lsub_n (lsub_n lsub_e))))))))))
    · exact V.tableOut C (tgt := 1755) dL_law_39 (by decide +kernel) (by decide) (law_tail C CXs kk (by decide) (by decide) (lsub_s rfl (lsub_n (lsub_n (lsub_n (lsub_s rfl (lsub_n (lsub_n (lsub_n (lsub_n lsub_e))))))))))
set_option maxRecDepth 100000 in
set_option maxHeartbeats 4000000 in
theorem law_all {κ : VK} {l : Launch} {D : va_G} {nm : String} {cI cL cII cO : ClassId} {e0 b : Nat} {n : Nat} {xs : Nat → Int32} (hn : n ≤ 5) (hfl : l.stackTraces = false) (C : Cx κ l D code RL wsL_law 9 ret (TY cI cL cII cO) room_1 nm) (CXs : CxX κ b n xs) (ZE : EZ κ e0) (ZX9 : XZ κ TL) (kk : ∀ (w : va_W) (L : List (Option Value)), V κ 600000 7000000 w 1762 L [.int (nI 1)]) : V κ 0 0 [] 0 [some (.ref b), none, none, none, none, none, none, none, none] [] := by
  have iX6 : ∀ z ∈ u_ws RX6 TX6 8, z ∈ wsL_law := by decide +kernel
  refine V.new C (ci := 8) (fs := [.null, .null, .null, .null, .null, .null, .null, .int 0]) iX6 tyX6 tyX6_ok (by decide +kernel) (by decide +kernel) (by decide +kernel) rfl (fun j hj => by rcases (show j = 0 ∨ j = 1 ∨ j = 2 ∨ j = 3 ∨ j = 4 ∨ j = 5 ∨ j = 6 ∨ j = 7 by omega) with rfl | rfl | rfl | rfl | rfl | rfl | rfl | rfl <;> rfl) (Nat.le_of_ble_eq_true rfl) (Nat.le_of_ble_eq_true rfl) dL_law_0 (fun q0 => ?_)
  refine V.dup C dL_law_3 rfl ?_
  refine V.callI (w0 := [(q0, .inr (8, [.null, .null, .null, .null, .null, .null, .null, .int 0]))]) (X := []) C (ct_X6_init rfl) rfl gL_law_X6_init (by decide +kernel) (by decide +kernel) (by decide +kernel) rfl (n := 0) ⟨by decide, by decide, by decide +kernel⟩ rfl rfl ⟨Nat.le_of_ble_eq_true rfl, Nat.le_of_ble_eq_true rfl⟩ ⟨Nat.le_of_ble_eq_true rfl, Nat.le_of_ble_eq_true rfl⟩ (Nat.le_of_ble_eq_true rfl) rfl dL_law_4 (fun rv w1 hp => ?_)
  obtain ⟨rfl, h, rfl, rfl⟩ := hp
  refine V.world (w' := SW cI h jInit) (List.append_nil _) ?_
  refine V.stack (st1 := [.ref (h 0)]) rfl ?_
  refine V.astore_n C dL_law_7 (by decide) rfl ?_
  dsimp only [List.set, Fin.val]
  refine V.new C (ci := 12) (fs := [.int 0, .null, .null, .null, .null, .null, .int 0, .int 0, .int 0, .int 0]) inlX10 tyX10 tyX10_ok (by decide +kernel) (by decide +kernel) (by decide +kernel) rfl (fun j hj => by rcases (show j = 0 ∨ j = 1 ∨ j = 2 ∨ j = 3 ∨ j = 4 ∨ j = 5 ∨ j = 6 ∨ j = 7 ∨ j = 8 ∨ j = 9 by omega) with rfl | rfl | rfl | rfl | rfl | rfl | rfl | rfl | rfl | rfl <;> rfl) (Nat.le_of_ble_eq_true rfl) (Nat.le_of_ble_eq_true rfl) dL_law_8 (fun q1 => ?_)
  refine V.dup C dL_law_11 rfl ?_
  refine V.swapw ?_
  refine V.zI (w0 := [(q1, .inr (12, [.int 0, .null, .null, .null, .null, .null, .int 0, .int 0, .int 0, .int 0]))]) (X := SW cI h jInit) C ZE (cz_X10_init) rfl gLZ_init (by decide +kernel) (by decide +kernel) (by decide +kernel) rfl (n := 0) ⟨by decide, by decide, by decide +kernel⟩ rfl rfl ⟨Nat.le_of_ble_eq_true rfl, Nat.le_of_ble_eq_true rfl⟩ ⟨Nat.le_of_ble_eq_true rfl, Nat.le_of_ble_eq_true rfl⟩ (Nat.le_of_ble_eq_true rfl) rfl dL_law_12 (fun rv w1 hp => ?_)
  obtain ⟨g, rfl, rfl, rfl⟩ := hp
  refine V.stack (st1 := [.ref (g 0)]) rfl ?_
  refine V.astore_n C dL_law_15 (by decide) rfl ?_
  dsimp only [List.set, Fin.val]
  refine V.iconst C (v := nI 1) dL_law_16 (by decide) ?_
  refine V.newarrayL C (t0 := 1) (N := 1) rfl rfl (by decide) (by decide +kernel) (Nat.le_of_ble_eq_true rfl) (Nat.le_of_ble_eq_true rfl) dL_law_17 (fun o => ?_)
  refine V.astore_n C dL_law_19 (by decide) rfl ?_
  dsimp only [List.set, Fin.val]
  refine V.iconst C (v := nI 0) dL_law_20 (by decide) ?_
  refine V.istore C dL_law_21 (by decide) rfl ?_
  dsimp only [List.set]
  refine V.world (w' := (MF cI cII e0 g ((nI 0))) ++ (SW cI h jInit ++ [(o, .inl (cL, 1, .inr (.inl (fun _ => (0 : Int64)))))])) (List.append_assoc _ _ _) ?_
  refine V.swapw ?_
  refine V.widen (k := 100) (n := 2000) (Nat.le_of_ble_eq_true rfl) (Nat.le_of_ble_eq_true rfl) ?_
  exact law_body hn hfl C CXs ZE ZX9 kk
