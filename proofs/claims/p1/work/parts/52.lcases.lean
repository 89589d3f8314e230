set_option maxRecDepth 100000 in
set_option maxHeartbeats 4000000 in
theorem law_tail {κ : VK} {l : Launch} {D : va_G} {tys : List (ClassId × FieldType)} {nm : String} {b cl sl : Nat} {w : va_W} {L : List (Option Value)} {xs : Nat → Int32} (C : Cx κ l D code RL wsL_law 9 ret tys room_1 nm) (CXs : CxX κ b 5 xs) (kk : ∀ (w : va_W) (L : List (Option Value)), V κ 600000 7000000 w 1762 L [.int (nI 1)]) (h1 : cl ≤ 600000) (h2 : sl ≤ 7000000) (hs : lsub [some (.ref b), none, none, none, some (.int (nI 0)), none, none, none, none] L) : V κ cl sl w 1755 L [] := by
  refine V.sub hs ?_
  refine V.widen (k := 600000) (n := 7000000) h1 h2 ?_
  refine V.iinc C (v := nI 5) dL_law_1755 rfl (by decide +kernel) (by decide) rfl ?_
  dsimp only [List.set]
  refine V.goto C (tgt := 23) dL_law_1758 (by decide) ?_
  refine V.iload C dL_law_23 rfl ?_
  refine V.aload_n C dL_law_25 rfl ?_
  refine V.slen C CXs dL_law_26 ?_
  refine V.iconst C (v := nI 5) dL_law_27 (by decide) ?_
  refine V.isub C dL_law_28 ?_
  refine V.topi (y := nI 0) (by decide +kernel) ?_
  refine V.icmp_gt C (tgt := 1761) dL_law_29 (by decide) (fun c => ?_) (fun c => absurd c (by decide +kernel))
  refine V.iconst C (v := nI 1) dL_law_1761 (by decide) ?_
  exact kk _ _
set_option maxRecDepth 100000 in
set_option maxHeartbeats 4000000 in
theorem law_0_x {κ : VK} {l : Launch} {D : va_G} {nm : String} {cI cL cII cO : ClassId} {e0 o b : Nat} {h g : Nat → Nat} {xs : Nat → Int32} (hfl : l.stackTraces = false) (C : Cx κ l D code RL wsL_law 9 ret (TY cI cL cII cO) room_1 nm) (CXs : CxX κ b 5 xs) (ZE : EZ κ e0) (ZX9 : XZ κ TL) (hx : xs 1 < nI 2 ∨ nI 5 < xs 1) (kk : ∀ (w : va_W) (L : List (Option Value)), V κ 600000 7000000 w 1762 L [.int (nI 1)]) : V κ 100 2000 ((SW cI h jInit ++ [(o, .inl (cL, 1, .inr (.inl (fun _ => (0 : Int64)))))]) ++ (MF cI cII e0 g ((nI 0)))) 168 [some (.ref b), some (.ref (h 0)), some (.ref (g 0)), some (.ref o), some (.int (nI 0)), none, none, none, none] [] := by
  refine V.aload_n C dL_law_168 rfl ?_
  refine V.aload_n C dL_law_169 rfl ?_
  refine V.iload C dL_law_170 rfl ?_
  refine V.iconst C (v := nI 1) dL_law_172 (by decide) ?_
  refine V.iadd C dL_law_173 ?_
  refine V.topi (y := nI 1) (by decide +kernel) ?_
  refine V.sld C CXs (vp_in_nI (by decide) (by decide)) dL_law_174 ?_
  refine V.topi (y := xs 1) ((congrArg xs (nI_clamp (by decide)))) ?_
  refine V.aload_n C dL_law_175 rfl ?_
  refine V.hS C ZX9 (X := (MF cI cII e0 g ((nI 0)))) (ct_L_question_x hfl rfl rfl hx) rfl gL_law_L_question (n := 3) ⟨by decide, by decide, by decide +kernel⟩ rfl rfl ⟨Nat.le_of_ble_eq_true rfl, Nat.le_of_ble_eq_true rfl⟩ ⟨Nat.le_of_ble_eq_true rfl, Nat.le_of_ble_eq_true rfl⟩ (Nat.le_of_ble_eq_true rfl) rfl dL_law_176 ?_
  refine V.topi (y := nI 1) rfl ?_
  refine V.istore C dL_law_179 (by decide) rfl ?_
  dsimp only [List.set]
  refine V.aload_n C dL_law_181 rfl ?_
  refine V.aload_n C dL_law_182 rfl ?_
  refine V.iload C dL_law_183 rfl ?_
  refine V.iconst C (v := nI 1) dL_law_185 (by decide) ?_
  refine V.iadd C dL_law_186 ?_
  refine V.topi (y := nI 1) (by decide +kernel) ?_
  refine V.sld C CXs (vp_in_nI (by decide) (by decide)) dL_law_187 ?_
  refine V.topi (y := xs 1) ((congrArg xs (nI_clamp (by decide)))) ?_
  refine V.swapw ?_
  refine V.zVfx C ZE (X := _) (cz_X10_question_x hx) rfl gLZ_question (n := 1) ⟨rfl, by decide, by decide, by decide +kernel⟩ rfl (q0 := 0) rfl rfl rfl ⟨Nat.le_of_ble_eq_true rfl, Nat.le_of_ble_eq_true rfl⟩ ⟨Nat.le_of_ble_eq_true rfl, Nat.le_of_ble_eq_true rfl⟩ (Nat.le_of_ble_eq_true rfl) rfl dL_law_188 (fun fs => ?_)
  refine V.istore C dL_law_191 (by decide) rfl ?_
  dsimp only [List.set]
  refine V.aload_n C dL_law_193 rfl ?_
  refine V.zVin C ZE (cz_X10_thrown (x := nI 1) rfl) gLZ_thrown (n := 0) ⟨rfl, by decide, by decide, by decide +kernel⟩ rfl (q0 := 0) rfl rfl rfl ⟨Nat.le_of_ble_eq_true rfl, Nat.le_of_ble_eq_true rfl⟩ ⟨Nat.le_of_ble_eq_true rfl, Nat.le_of_ble_eq_true rfl⟩ (Nat.le_of_ble_eq_true rfl) rfl dL_law_194 ?_
  refine V.iload C dL_law_197 rfl ?_
  refine V.icmp_eq C (tgt := 204) dL_law_199 (by decide) (fun c199 => ?_) (fun c199 => ?_)
  rotate_left
  · exfalso; exact absurd c199 (by decide +kernel)
  refine V.iload C dL_law_204 rfl ?_
  refine V.if_ne C (tgt := 221) dL_law_206 (by decide) (fun c206 => ?_) (fun c206 => ?_)
  rotate_left
  · exfalso; exact absurd c206 (by decide +kernel)
  refine V.goto C (tgt := 1755) dL_law_221 (by decide) ?_
  exact law_tail C CXs kk (Nat.le_of_ble_eq_true rfl) (Nat.le_of_ble_eq_true rfl) (lsub_s rfl (lsub_n (lsub_n (lsub_n (lsub_s rfl (lsub_n (lsub_n (lsub_n (lsub_n lsub_e)))))))))
set_option maxRecDepth 100000 in
set_option maxHeartbeats 4000000 in
theorem law_0_ok {κ : VK} {l : Launch} {D : va_G} {nm : String} {cI cL cII cO : ClassId} {e0 o b : Nat} {h g : Nat → Nat} {xs : Nat → Int32} (hfl : l.stackTraces = false) (C : Cx κ l D code RL wsL_law 9 ret (TY cI cL cII cO) room_1 nm) (CXs : CxX κ b 5 xs) (ZE : EZ κ e0) (ZX9 : XZ κ TL) {a : Nat} (h2 : 2 ≤ a) (h5 : a ≤ 5) (e1 : xs 1 = nI a) (kk : ∀ (w : va_W) (L : List (Option Value)), V κ 600000 7000000 w 1762 L [.int (nI 1)]) : V κ 100 2000 ((SW cI h jInit ++ [(o, .inl (cL, 1, .inr (.inl (fun _ => (0 : Int64)))))]) ++ (MF cI cII e0 g ((nI 0)))) 168 [some (.ref b), some (.ref (h 0)), some (.ref (g 0)), some (.ref o), some (.int (nI 0)), none, none, none, none] [] := by
  refine V.aload_n C dL_law_168 rfl ?_
  refine V.aload_n C dL_law_169 rfl ?_
  refine V.iload C dL_law_170 rfl ?_
  refine V.iconst C (v := nI 1) dL_law_172 (by decide) ?_
  refine V.iadd C dL_law_173 ?_
  refine V.topi (y := nI 1) (by decide +kernel) ?_
  refine V.sld C CXs (vp_in_nI (by decide) (by decide)) dL_law_174 ?_
  refine V.topi (y := nI a) ((congrArg xs (nI_clamp (by decide))).trans e1) ?_
  refine V.aload_n C dL_law_175 rfl ?_
  refine V.hS C ZX9 (X := (MF cI cII e0 g ((nI 0)))) (ct_L_question_ok hfl rfl rfl h2 h5) rfl gL_law_L_question (n := 3) ⟨by decide, by decide, by decide +kernel⟩ rfl rfl ⟨Nat.le_of_ble_eq_true rfl, Nat.le_of_ble_eq_true rfl⟩ ⟨Nat.le_of_ble_eq_true rfl, Nat.le_of_ble_eq_true rfl⟩ (Nat.le_of_ble_eq_true rfl) rfl dL_law_176 ?_
  refine V.topi (y := nI 0) rfl ?_
  refine V.istore C dL_law_179 (by decide) rfl ?_
  dsimp only [List.set]
  refine V.aload_n C dL_law_181 rfl ?_
  refine V.aload_n C dL_law_182 rfl ?_
  refine V.iload C dL_law_183 rfl ?_
  refine V.iconst C (v := nI 1) dL_law_185 (by decide) ?_
  refine V.iadd C dL_law_186 ?_
  refine V.topi (y := nI 1) (by decide +kernel) ?_
  refine V.sld C CXs (vp_in_nI (by decide) (by decide)) dL_law_187 ?_
  refine V.topi (y := nI a) ((congrArg xs (nI_clamp (by decide))).trans e1) ?_
  refine V.swapw ?_
  refine V.zVfx C ZE (X := _) (cz_X10_question_ok h2 h5) rfl gLZ_question (n := 1) ⟨rfl, by decide, by decide, by decide +kernel⟩ rfl (q0 := 0) rfl rfl rfl ⟨Nat.le_of_ble_eq_true rfl, Nat.le_of_ble_eq_true rfl⟩ ⟨Nat.le_of_ble_eq_true rfl, Nat.le_of_ble_eq_true rfl⟩ (Nat.le_of_ble_eq_true rfl) rfl dL_law_188 (fun fs => ?_)
  refine V.istore C dL_law_191 (by decide) rfl ?_
  dsimp only [List.set]
  refine V.aload_n C dL_law_193 rfl ?_
  refine V.zVin C ZE (cz_X10_thrown (x := nI 0) rfl) gLZ_thrown (n := 0) ⟨rfl, by decide, by decide, by decide +kernel⟩ rfl (q0 := 0) rfl rfl rfl ⟨Nat.le_of_ble_eq_true rfl, Nat.le_of_ble_eq_true rfl⟩ ⟨Nat.le_of_ble_eq_true rfl, Nat.le_of_ble_eq_true rfl⟩ (Nat.le_of_ble_eq_true rfl) rfl dL_law_194 ?_
  refine V.iload C dL_law_197 rfl ?_
  refine V.icmp_eq C (tgt := 204) dL_law_199 (by decide) (fun c199 => ?_) (fun c199 => ?_)
  rotate_left
  · exfalso; exact absurd c199 (by decide +kernel)
  refine V.iload C dL_law_204 rfl ?_
  refine V.if_ne C (tgt := 221) dL_law_206 (by decide) (fun c206 => ?_) (fun c206 => ?_)
  · exfalso; exact absurd c206 (by decide +kernel)
  refine V.aload_n C dL_law_209 rfl ?_
  refine V.iconst C (v := nI 0) dL_law_210 (by decide) ?_
  refine V.lald C (q0 := 28) (t0 := 1) rfl rfl rfl (by decide) (by decide) dL_law_211 ?_
  refine V.topl (y := 0) (pk_uLs.trans (by decide +kernel)) ?_
  refine V.iload C dL_law_212 rfl ?_
  refine V.i2l C dL_law_214 ?_
  refine V.topl (y := 0) (by decide +kernel) ?_
  refine V.lcmp C dL_law_215 ?_
  refine V.if_eq C (tgt := 221) dL_law_216 (by decide) (fun c216 => ?_) (fun c216 => ?_)
  rotate_left
  · exfalso; exact absurd c216 (by decide +kernel)
  refine V.goto C (tgt := 1755) dL_law_221 (by decide) ?_
  exact law_tail C CXs kk (Nat.le_of_ble_eq_true rfl) (Nat.le_of_ble_eq_true rfl) (lsub_s rfl (lsub_n (lsub_n (lsub_n (lsub_s rfl (lsub_n (lsub_n (lsub_n (lsub_n lsub_e)))))))))
set_option maxRecDepth 100000 in
set_option maxHeartbeats 4000000 in
theorem law_1_x {κ : VK} {l : Launch} {D : va_G} {nm : String} {cI cL cII cO : ClassId} {e0 o b : Nat} {h g : Nat → Nat} {xs : Nat → Int32} (hfl : l.stackTraces = false) (C : Cx κ l D code RL wsL_law 9 ret (TY cI cL cII cO) room_1 nm) (CXs : CxX κ b 5 xs) (ZE : EZ κ e0) (ZX9 : XZ κ TL)  (kk : ∀ (w : va_W) (L : List (Option Value)), V κ 600000 7000000 w 1762 L [.int (nI 1)]) : V κ 100 2000 ((SW cI h jInit ++ [(o, .inl (cL, 1, .inr (.inl (fun _ => (0 : Int64)))))]) ++ (MF cI cII e0 g ((nI 0)))) 224 [some (.ref b), some (.ref (h 0)), some (.ref (g 0)), some (.ref o), some (.int (nI 0)), none, none, none, none] [] := by
  refine V.aload_n C dL_law_224 rfl ?_
  refine V.aload_n C dL_law_225 rfl ?_
  refine V.iload C dL_law_226 rfl ?_
  refine V.iconst C (v := nI 1) dL_law_228 (by decide) ?_
  refine V.iadd C dL_law_229 ?_
  refine V.topi (y := nI 1) (by decide +kernel) ?_
  refine V.sld C CXs (vp_in_nI (by decide) (by decide)) dL_law_230 ?_
  refine V.topi (y := xs 1) ((congrArg xs (nI_clamp (by decide)))) ?_
  refine V.aload_n C dL_law_231 rfl ?_
  refine V.iload C dL_law_232 rfl ?_
  refine V.iconst C (v := nI 2) dL_law_234 (by decide) ?_
  refine V.iadd C dL_law_235 ?_
  refine V.topi (y := nI 2) (by decide +kernel) ?_
  refine V.sld C CXs (vp_in_nI (by decide) (by decide)) dL_law_236 ?_
  refine V.topi (y := xs 2) ((congrArg xs (nI_clamp (by decide)))) ?_
  refine V.aload_n C dL_law_237 rfl ?_
  refine V.iload C dL_law_238 rfl ?_
  refine V.iconst C (v := nI 3) dL_law_240 (by decide) ?_
  refine V.iadd C dL_law_241 ?_
  refine V.topi (y := nI 3) (by decide +kernel) ?_
  refine V.sld C CXs (vp_in_nI (by decide) (by decide)) dL_law_242 ?_
  refine V.topi (y := xs 3) ((congrArg xs (nI_clamp (by decide)))) ?_
  refine V.aload_n C dL_law_243 rfl ?_
  refine V.hS C ZX9 (X := (MF cI cII e0 g ((nI 0)))) (ct_L_route_x hfl rfl rfl) rfl gL_law_L_route (n := 5) ⟨by decide, by decide, by decide +kernel⟩ rfl rfl ⟨Nat.le_of_ble_eq_true rfl, Nat.le_of_ble_eq_true rfl⟩ ⟨Nat.le_of_ble_eq_true rfl, Nat.le_of_ble_eq_true rfl⟩ (Nat.le_of_ble_eq_true rfl) rfl dL_law_244 ?_
  refine V.topi (y := nI 1) rfl ?_
  refine V.istore C dL_law_247 (by decide) rfl ?_
  dsimp only [List.set]
  refine V.aload_n C dL_law_249 rfl ?_
  refine V.aload_n C dL_law_250 rfl ?_
  refine V.iload C dL_law_251 rfl ?_
  refine V.iconst C (v := nI 1) dL_law_253 (by decide) ?_
  refine V.iadd C dL_law_254 ?_
  refine V.topi (y := nI 1) (by decide +kernel) ?_
  refine V.sld C CXs (vp_in_nI (by decide) (by decide)) dL_law_255 ?_
  refine V.topi (y := xs 1) ((congrArg xs (nI_clamp (by decide)))) ?_
  refine V.aload_n C dL_law_256 rfl ?_
  refine V.iload C dL_law_257 rfl ?_
  refine V.iconst C (v := nI 2) dL_law_259 (by decide) ?_
  refine V.iadd C dL_law_260 ?_
  refine V.topi (y := nI 2) (by decide +kernel) ?_
  refine V.sld C CXs (vp_in_nI (by decide) (by decide)) dL_law_261 ?_
  refine V.topi (y := xs 2) ((congrArg xs (nI_clamp (by decide)))) ?_
  refine V.aload_n C dL_law_262 rfl ?_
  refine V.iload C dL_law_263 rfl ?_
  refine V.iconst C (v := nI 3) dL_law_265 (by decide) ?_
  refine V.iadd C dL_law_266 ?_
  refine V.topi (y := nI 3) (by decide +kernel) ?_
  refine V.sld C CXs (vp_in_nI (by decide) (by decide)) dL_law_267 ?_
  refine V.topi (y := xs 3) ((congrArg xs (nI_clamp (by decide)))) ?_
  refine V.swapw ?_
  refine V.zVfx C ZE (X := _) (cz_X10_route_x) rfl gLZ_route (n := 3) ⟨rfl, by decide, by decide, by decide +kernel⟩ rfl (q0 := 0) rfl rfl rfl ⟨Nat.le_of_ble_eq_true rfl, Nat.le_of_ble_eq_true rfl⟩ ⟨Nat.le_of_ble_eq_true rfl, Nat.le_of_ble_eq_true rfl⟩ (Nat.le_of_ble_eq_true rfl) rfl dL_law_268 (fun fs => ?_)
  refine V.istore C dL_law_271 (by decide) rfl ?_
  dsimp only [List.set]
  refine V.aload_n C dL_law_273 rfl ?_
  refine V.zVin C ZE (cz_X10_thrown (x := nI 1) rfl) gLZ_thrown (n := 0) ⟨rfl, by decide, by decide, by decide +kernel⟩ rfl (q0 := 0) rfl rfl rfl ⟨Nat.le_of_ble_eq_true rfl, Nat.le_of_ble_eq_true rfl⟩ ⟨Nat.le_of_ble_eq_true rfl, Nat.le_of_ble_eq_true rfl⟩ (Nat.le_of_ble_eq_true rfl) rfl dL_law_274 ?_
  refine V.iload C dL_law_277 rfl ?_
  refine V.icmp_eq C (tgt := 284) dL_law_279 (by decide) (fun c279 => ?_) (fun c279 => ?_)
  rotate_left
  · exfalso; exact absurd c279 (by decide +kernel)
  refine V.iload C dL_law_284 rfl ?_
  refine V.if_ne C (tgt := 301) dL_law_286 (by decide) (fun c286 => ?_) (fun c286 => ?_)
  rotate_left
  · exfalso; exact absurd c286 (by decide +kernel)
  refine V.goto C (tgt := 1755) dL_law_301 (by decide) ?_
  exact law_tail C CXs kk (Nat.le_of_ble_eq_true rfl) (Nat.le_of_ble_eq_true rfl) (lsub_s rfl (lsub_n (lsub_n (lsub_n (lsub_s rfl (lsub_n (lsub_n (lsub_n (lsub_n lsub_e)))))))))
set_option maxRecDepth 100000 in
set_option maxHeartbeats 4000000 in
theorem law_2_xa {κ : VK} {l : Launch} {D : va_G} {nm : String} {cI cL cII cO : ClassId} {e0 o b : Nat} {h g : Nat → Nat} {xs : Nat → Int32} (hfl : l.stackTraces = false) (C : Cx κ l D code RL wsL_law 9 ret (TY cI cL cII cO) room_1 nm) (CXs : CxX κ b 5 xs) (ZE : EZ κ e0) (ZX9 : XZ κ TL) (hx : xs 1 < nI 0 ∨ nI 3 < xs 1) (hy : xs 1 < 0 ∨ nI 0 < xs 1) (kk : ∀ (w : va_W) (L : List (Option Value)), V κ 600000 7000000 w 1762 L [.int (nI 1)]) : V κ 100 2000 ((SW cI h jInit ++ [(o, .inl (cL, 1, .inr (.inl (fun _ => (0 : Int64)))))]) ++ (MF cI cII e0 g ((nI 0)))) 304 [some (.ref b), some (.ref (h 0)), some (.ref (g 0)), some (.ref o), some (.int (nI 0)), none, none, none, none] [] := by
  refine V.aload_n C dL_law_304 rfl ?_
  refine V.aload_n C dL_law_305 rfl ?_
  refine V.iload C dL_law_306 rfl ?_
  refine V.iconst C (v := nI 1) dL_law_308 (by decide) ?_
  refine V.iadd C dL_law_309 ?_
  refine V.topi (y := nI 1) (by decide +kernel) ?_
  refine V.sld C CXs (vp_in_nI (by decide) (by decide)) dL_law_310 ?_
  refine V.topi (y := xs 1) ((congrArg xs (nI_clamp (by decide)))) ?_
  refine V.aload_n C dL_law_311 rfl ?_
  refine V.hS C ZX9 (X := (MF cI cII e0 g ((nI 0)))) (ct_L_rotate_x hfl rfl rfl hy) rfl gL_law_L_rotate (n := 3) ⟨by decide, by decide, by decide +kernel⟩ rfl rfl ⟨Nat.le_of_ble_eq_true rfl, Nat.le_of_ble_eq_true rfl⟩ ⟨Nat.le_of_ble_eq_true rfl, Nat.le_of_ble_eq_true rfl⟩ (Nat.le_of_ble_eq_true rfl) rfl dL_law_312 ?_
  refine V.topi (y := nI 1) rfl ?_
  refine V.istore C dL_law_315 (by decide) rfl ?_
  dsimp only [List.set]
  refine V.aload_n C dL_law_317 rfl ?_
  refine V.aload_n C dL_law_318 rfl ?_
  refine V.iload C dL_law_319 rfl ?_
  refine V.iconst C (v := nI 1) dL_law_321 (by decide) ?_
  refine V.iadd C dL_law_322 ?_
  refine V.topi (y := nI 1) (by decide +kernel) ?_
  refine V.sld C CXs (vp_in_nI (by decide) (by decide)) dL_law_323 ?_
  refine V.topi (y := xs 1) ((congrArg xs (nI_clamp (by decide)))) ?_
  refine V.swapw ?_
  refine V.zVfx C ZE (X := _) (cz_X10_rotate_xa hx) rfl gLZ_rotate (n := 1) ⟨rfl, by decide, by decide, by decide +kernel⟩ rfl (q0 := 0) rfl rfl rfl ⟨Nat.le_of_ble_eq_true rfl, Nat.le_of_ble_eq_true rfl⟩ ⟨Nat.le_of_ble_eq_true rfl, Nat.le_of_ble_eq_true rfl⟩ (Nat.le_of_ble_eq_true rfl) rfl dL_law_324 (fun fs => ?_)
  refine V.istore C dL_law_327 (by decide) rfl ?_
  dsimp only [List.set]
  refine V.aload_n C dL_law_329 rfl ?_
  refine V.zVin C ZE (cz_X10_thrown (x := nI 1) rfl) gLZ_thrown (n := 0) ⟨rfl, by decide, by decide, by decide +kernel⟩ rfl (q0 := 0) rfl rfl rfl ⟨Nat.le_of_ble_eq_true rfl, Nat.le_of_ble_eq_true rfl⟩ ⟨Nat.le_of_ble_eq_true rfl, Nat.le_of_ble_eq_true rfl⟩ (Nat.le_of_ble_eq_true rfl) rfl dL_law_330 ?_
  refine V.iload C dL_law_333 rfl ?_
  refine V.icmp_eq C (tgt := 340) dL_law_335 (by decide) (fun c335 => ?_) (fun c335 => ?_)
  rotate_left
  · exfalso; exact absurd c335 (by decide +kernel)
  refine V.iload C dL_law_340 rfl ?_
  refine V.if_ne C (tgt := 357) dL_law_342 (by decide) (fun c342 => ?_) (fun c342 => ?_)
  rotate_left
  · exfalso; exact absurd c342 (by decide +kernel)
  refine V.goto C (tgt := 1755) dL_law_357 (by decide) ?_
  exact law_tail C CXs kk (Nat.le_of_ble_eq_true rfl) (Nat.le_of_ble_eq_true rfl) (lsub_s rfl (lsub_n (lsub_n (lsub_n (lsub_s rfl (lsub_n (lsub_n (lsub_n (lsub_n lsub_e)))))))))
set_option maxRecDepth 100000 in
set_option maxHeartbeats 4000000 in
theorem law_2_xb {κ : VK} {l : Launch} {D : va_G} {nm : String} {cI cL cII cO : ClassId} {e0 o b : Nat} {h g : Nat → Nat} {xs : Nat → Int32} (hfl : l.stackTraces = false) (C : Cx κ l D code RL wsL_law 9 ret (TY cI cL cII cO) room_1 nm) (CXs : CxX κ b 5 xs) (ZE : EZ κ e0) (ZX9 : XZ κ TL) (h1 : ¬ xs 1 < nI 0) (h2 : ¬ nI 3 < xs 1) (hx : nI 0 < xs 1) (kk : ∀ (w : va_W) (L : List (Option Value)), V κ 600000 7000000 w 1762 L [.int (nI 1)]) : V κ 100 2000 ((SW cI h jInit ++ [(o, .inl (cL, 1, .inr (.inl (fun _ => (0 : Int64)))))]) ++ (MF cI cII e0 g ((nI 0)))) 304 [some (.ref b), some (.ref (h 0)), some (.ref (g 0)), some (.ref o), some (.int (nI 0)), none, none, none, none] [] := by
  refine V.aload_n C dL_law_304 rfl ?_
  refine V.aload_n C dL_law_305 rfl ?_
  refine V.iload C dL_law_306 rfl ?_
  refine V.iconst C (v := nI 1) dL_law_308 (by decide) ?_
  refine V.iadd C dL_law_309 ?_
  refine V.topi (y := nI 1) (by decide +kernel) ?_
  refine V.sld C CXs (vp_in_nI (by decide) (by decide)) dL_law_310 ?_
  refine V.topi (y := xs 1) ((congrArg xs (nI_clamp (by decide)))) ?_
  refine V.aload_n C dL_law_311 rfl ?_
  refine V.hS C ZX9 (X := (MF cI cII e0 g ((nI 0)))) (ct_L_rotate_x hfl rfl rfl (Or.inr hx)) rfl gL_law_L_rotate (n := 3) ⟨by decide, by decide, by decide +kernel⟩ rfl rfl ⟨Nat.le_of_ble_eq_true rfl, Nat.le_of_ble_eq_true rfl⟩ ⟨Nat.le_of_ble_eq_true rfl, Nat.le_of_ble_eq_true rfl⟩ (Nat.le_of_ble_eq_true rfl) rfl dL_law_312 ?_
  refine V.topi (y := nI 1) rfl ?_
  refine V.istore C dL_law_315 (by decide) rfl ?_
  dsimp only [List.set]
  refine V.aload_n C dL_law_317 rfl ?_
  refine V.aload_n C dL_law_318 rfl ?_
  refine V.iload C dL_law_319 rfl ?_
  refine V.iconst C (v := nI 1) dL_law_321 (by decide) ?_
  refine V.iadd C dL_law_322 ?_
  refine V.topi (y := nI 1) (by decide +kernel) ?_
  refine V.sld C CXs (vp_in_nI (by decide) (by decide)) dL_law_323 ?_
  refine V.topi (y := xs 1) ((congrArg xs (nI_clamp (by decide)))) ?_
  refine V.swapw ?_
  refine V.zVfx C ZE (X := _) (cz_X10_rotate_xb h1 h2 hx) rfl gLZ_rotate (n := 1) ⟨rfl, by decide, by decide, by decide +kernel⟩ rfl (q0 := 0) rfl rfl rfl ⟨Nat.le_of_ble_eq_true rfl, Nat.le_of_ble_eq_true rfl⟩ ⟨Nat.le_of_ble_eq_true rfl, Nat.le_of_ble_eq_true rfl⟩ (Nat.le_of_ble_eq_true rfl) rfl dL_law_324 (fun fs => ?_)
  refine V.istore C dL_law_327 (by decide) rfl ?_
  dsimp only [List.set]
  refine V.aload_n C dL_law_329 rfl ?_
  refine V.zVin C ZE (cz_X10_thrown (x := nI 1) rfl) gLZ_thrown (n := 0) ⟨rfl, by decide, by decide, by decide +kernel⟩ rfl (q0 := 0) rfl rfl rfl ⟨Nat.le_of_ble_eq_true rfl, Nat.le_of_ble_eq_true rfl⟩ ⟨Nat.le_of_ble_eq_true rfl, Nat.le_of_ble_eq_true rfl⟩ (Nat.le_of_ble_eq_true rfl) rfl dL_law_330 ?_
  refine V.iload C dL_law_333 rfl ?_
  refine V.icmp_eq C (tgt := 340) dL_law_335 (by decide) (fun c335 => ?_) (fun c335 => ?_)
  rotate_left
  · exfalso; exact absurd c335 (by decide +kernel)
  refine V.iload C dL_law_340 rfl ?_
  refine V.if_ne C (tgt := 357) dL_law_342 (by decide) (fun c342 => ?_) (fun c342 => ?_)
  rotate_left
  · exfalso; exact absurd c342 (by decide +kernel)
  refine V.goto C (tgt := 1755) dL_law_357 (by decide) ?_
  exact law_tail C CXs kk (Nat.le_of_ble_eq_true rfl) (Nat.le_of_ble_eq_true rfl) (lsub_s rfl (lsub_n (lsub_n (lsub_n (lsub_s rfl (lsub_n (lsub_n (lsub_n (lsub_n lsub_e)))))))))
set_option maxRecDepth 100000 in
set_option maxHeartbeats 4000000 in
theorem law_2_ok {κ : VK} {l : Launch} {D : va_G} {nm : String} {cI cL cII cO : ClassId} {e0 o b : Nat} {h g : Nat → Nat} {xs : Nat → Int32} (hfl : l.stackTraces = false) (C : Cx κ l D code RL wsL_law 9 ret (TY cI cL cII cO) room_1 nm) (CXs : CxX κ b 5 xs) (ZE : EZ κ e0) (ZX9 : XZ κ TL) (e1 : xs 1 = nI 0) (kk : ∀ (w : va_W) (L : List (Option Value)), V κ 600000 7000000 w 1762 L [.int (nI 1)]) : V κ 100 2000 ((SW cI h jInit ++ [(o, .inl (cL, 1, .inr (.inl (fun _ => (0 : Int64)))))]) ++ (MF cI cII e0 g ((nI 0)))) 304 [some (.ref b), some (.ref (h 0)), some (.ref (g 0)), some (.ref o), some (.int (nI 0)), none, none, none, none] [] := by
  refine V.aload_n C dL_law_304 rfl ?_
  refine V.aload_n C dL_law_305 rfl ?_
  refine V.iload C dL_law_306 rfl ?_
  refine V.iconst C (v := nI 1) dL_law_308 (by decide) ?_
  refine V.iadd C dL_law_309 ?_
  refine V.topi (y := nI 1) (by decide +kernel) ?_
  refine V.sld C CXs (vp_in_nI (by decide) (by decide)) dL_law_310 ?_
  refine V.topi (y := nI 0) ((congrArg xs (nI_clamp (by decide))).trans e1) ?_
  refine V.aload_n C dL_law_311 rfl ?_
  refine V.hS C ZX9 (X := (MF cI cII e0 g ((nI 0)))) (ct_L_rotate_ok hfl rfl rfl) rfl gL_law_L_rotate (n := 3) ⟨by decide, by decide, by decide +kernel⟩ rfl rfl ⟨Nat.le_of_ble_eq_true rfl, Nat.le_of_ble_eq_true rfl⟩ ⟨Nat.le_of_ble_eq_true rfl, Nat.le_of_ble_eq_true rfl⟩ (Nat.le_of_ble_eq_true rfl) rfl dL_law_312 ?_
  refine V.topi (y := nI 0) rfl ?_
  refine V.istore C dL_law_315 (by decide) rfl ?_
  dsimp only [List.set]
  refine V.aload_n C dL_law_317 rfl ?_
  refine V.aload_n C dL_law_318 rfl ?_
  refine V.iload C dL_law_319 rfl ?_
  refine V.iconst C (v := nI 1) dL_law_321 (by decide) ?_
  refine V.iadd C dL_law_322 ?_
  refine V.topi (y := nI 1) (by decide +kernel) ?_
  refine V.sld C CXs (vp_in_nI (by decide) (by decide)) dL_law_323 ?_
  refine V.topi (y := nI 0) ((congrArg xs (nI_clamp (by decide))).trans e1) ?_
  refine V.swapw ?_
  refine V.zVfx C ZE (X := _) (cz_X10_rotate_ok) rfl gLZ_rotate (n := 1) ⟨rfl, by decide, by decide, by decide +kernel⟩ rfl (q0 := 0) rfl rfl rfl ⟨Nat.le_of_ble_eq_true rfl, Nat.le_of_ble_eq_true rfl⟩ ⟨Nat.le_of_ble_eq_true rfl, Nat.le_of_ble_eq_true rfl⟩ (Nat.le_of_ble_eq_true rfl) rfl dL_law_324 (fun fs => ?_)
  refine V.istore C dL_law_327 (by decide) rfl ?_
  dsimp only [List.set]
  refine V.aload_n C dL_law_329 rfl ?_
  refine V.zVin C ZE (cz_X10_thrown (x := nI 0) rfl) gLZ_thrown (n := 0) ⟨rfl, by decide, by decide, by decide +kernel⟩ rfl (q0 := 0) rfl rfl rfl ⟨Nat.le_of_ble_eq_true rfl, Nat.le_of_ble_eq_true rfl⟩ ⟨Nat.le_of_ble_eq_true rfl, Nat.le_of_ble_eq_true rfl⟩ (Nat.le_of_ble_eq_true rfl) rfl dL_law_330 ?_
  refine V.iload C dL_law_333 rfl ?_
  refine V.icmp_eq C (tgt := 340) dL_law_335 (by decide) (fun c335 => ?_) (fun c335 => ?_)
  rotate_left
  · exfalso; exact absurd c335 (by decide +kernel)
  refine V.iload C dL_law_340 rfl ?_
  refine V.if_ne C (tgt := 357) dL_law_342 (by decide) (fun c342 => ?_) (fun c342 => ?_)
  · exfalso; exact absurd c342 (by decide +kernel)
  refine V.aload_n C dL_law_345 rfl ?_
  refine V.iconst C (v := nI 0) dL_law_346 (by decide) ?_
  refine V.lald C (q0 := 28) (t0 := 1) rfl rfl rfl (by decide) (by decide) dL_law_347 ?_
  refine V.topl (y := 0) (pk_uLs.trans (by decide +kernel)) ?_
  refine V.iload C dL_law_348 rfl ?_
  refine V.i2l C dL_law_350 ?_
  refine V.topl (y := 0) (by decide +kernel) ?_
  refine V.lcmp C dL_law_351 ?_
  refine V.if_eq C (tgt := 357) dL_law_352 (by decide) (fun c352 => ?_) (fun c352 => ?_)
  rotate_left
  · exfalso; exact absurd c352 (by decide +kernel)
  refine V.goto C (tgt := 1755) dL_law_357 (by decide) ?_
  exact law_tail C CXs kk (Nat.le_of_ble_eq_true rfl) (Nat.le_of_ble_eq_true rfl) (lsub_s rfl (lsub_n (lsub_n (lsub_n (lsub_s rfl (lsub_n (lsub_n (lsub_n (lsub_n lsub_e)))))))))
set_option maxRecDepth 100000 in
set_option maxHeartbeats 4000000 in
theorem law_3_x {κ : VK} {l : Launch} {D : va_G} {nm : String} {cI cL cII cO : ClassId} {e0 o b : Nat} {h g : Nat → Nat} {xs : Nat → Int32} (hfl : l.stackTraces = false) (C : Cx κ l D code RL wsL_law 9 ret (TY cI cL cII cO) room_1 nm) (CXs : CxX κ b 5 xs) (ZE : EZ κ e0) (ZX9 : XZ κ TL)  (kk : ∀ (w : va_W) (L : List (Option Value)), V κ 600000 7000000 w 1762 L [.int (nI 1)]) : V κ 100 2000 ((SW cI h jInit ++ [(o, .inl (cL, 1, .inr (.inl (fun _ => (0 : Int64)))))]) ++ (MF cI cII e0 g ((nI 0)))) 360 [some (.ref b), some (.ref (h 0)), some (.ref (g 0)), some (.ref o), some (.int (nI 0)), none, none, none, none] [] := by
  refine V.aload_n C dL_law_360 rfl ?_
  refine V.aload_n C dL_law_361 rfl ?_
  refine V.iload C dL_law_362 rfl ?_
  refine V.iconst C (v := nI 1) dL_law_364 (by decide) ?_
  refine V.iadd C dL_law_365 ?_
  refine V.topi (y := nI 1) (by decide +kernel) ?_
  refine V.sld C CXs (vp_in_nI (by decide) (by decide)) dL_law_366 ?_
  refine V.topi (y := xs 1) ((congrArg xs (nI_clamp (by decide)))) ?_
  refine V.aload_n C dL_law_367 rfl ?_
  refine V.iload C dL_law_368 rfl ?_
  refine V.iconst C (v := nI 2) dL_law_370 (by decide) ?_
  refine V.iadd C dL_law_371 ?_
  refine V.topi (y := nI 2) (by decide +kernel) ?_
  refine V.sld C CXs (vp_in_nI (by decide) (by decide)) dL_law_372 ?_
  refine V.topi (y := xs 2) ((congrArg xs (nI_clamp (by decide)))) ?_
  refine V.aload_n C dL_law_373 rfl ?_
  refine V.hS C ZX9 (X := (MF cI cII e0 g ((nI 0)))) (ct_L_behind_x hfl rfl rfl) rfl gL_law_L_behind (n := 4) ⟨by decide, by decide, by decide +kernel⟩ rfl rfl ⟨Nat.le_of_ble_eq_true rfl, Nat.le_of_ble_eq_true rfl⟩ ⟨Nat.le_of_ble_eq_true rfl, Nat.le_of_ble_eq_true rfl⟩ (Nat.le_of_ble_eq_true rfl) rfl dL_law_374 ?_
  refine V.topi (y := nI 1) rfl ?_
  refine V.istore C dL_law_377 (by decide) rfl ?_
  dsimp only [List.set]
  refine V.aload_n C dL_law_379 rfl ?_
  refine V.aload_n C dL_law_380 rfl ?_
  refine V.iload C dL_law_381 rfl ?_
  refine V.iconst C (v := nI 1) dL_law_383 (by decide) ?_
  refine V.iadd C dL_law_384 ?_
  refine V.topi (y := nI 1) (by decide +kernel) ?_
  refine V.sld C CXs (vp_in_nI (by decide) (by decide)) dL_law_385 ?_
  refine V.topi (y := xs 1) ((congrArg xs (nI_clamp (by decide)))) ?_
  refine V.aload_n C dL_law_386 rfl ?_
  refine V.iload C dL_law_387 rfl ?_
  refine V.iconst C (v := nI 2) dL_law_389 (by decide) ?_
  refine V.iadd C dL_law_390 ?_
  refine V.topi (y := nI 2) (by decide +kernel) ?_
  refine V.sld C CXs (vp_in_nI (by decide) (by decide)) dL_law_391 ?_
  refine V.topi (y := xs 2) ((congrArg xs (nI_clamp (by decide)))) ?_
  refine V.swapw ?_
  refine V.zVfx C ZE (X := _) (cz_X10_behind_x) rfl gLZ_behind (n := 2) ⟨rfl, by decide, by decide, by decide +kernel⟩ rfl (q0 := 0) rfl rfl rfl ⟨Nat.le_of_ble_eq_true rfl, Nat.le_of_ble_eq_true rfl⟩ ⟨Nat.le_of_ble_eq_true rfl, Nat.le_of_ble_eq_true rfl⟩ (Nat.le_of_ble_eq_true rfl) rfl dL_law_392 (fun fs => ?_)
  refine V.istore C dL_law_395 (by decide) rfl ?_
  dsimp only [List.set]
  refine V.aload_n C dL_law_397 rfl ?_
  refine V.zVin C ZE (cz_X10_thrown (x := nI 1) rfl) gLZ_thrown (n := 0) ⟨rfl, by decide, by decide, by decide +kernel⟩ rfl (q0 := 0) rfl rfl rfl ⟨Nat.le_of_ble_eq_true rfl, Nat.le_of_ble_eq_true rfl⟩ ⟨Nat.le_of_ble_eq_true rfl, Nat.le_of_ble_eq_true rfl⟩ (Nat.le_of_ble_eq_true rfl) rfl dL_law_398 ?_
  refine V.iload C dL_law_401 rfl ?_
  refine V.icmp_eq C (tgt := 408) dL_law_403 (by decide) (fun c403 => ?_) (fun c403 => ?_)
  rotate_left
  · exfalso; exact absurd c403 (by decide +kernel)
  refine V.iload C dL_law_408 rfl ?_
  refine V.if_ne C (tgt := 425) dL_law_410 (by decide) (fun c410 => ?_) (fun c410 => ?_)
  rotate_left
  · exfalso; exact absurd c410 (by decide +kernel)
  refine V.goto C (tgt := 1755) dL_law_425 (by decide) ?_
  exact law_tail C CXs kk (Nat.le_of_ble_eq_true rfl) (Nat.le_of_ble_eq_true rfl) (lsub_s rfl (lsub_n (lsub_n (lsub_n (lsub_s rfl (lsub_n (lsub_n (lsub_n (lsub_n lsub_e)))))))))
set_option maxRecDepth 100000 in
set_option maxHeartbeats 4000000 in
theorem law_4_xa {κ : VK} {l : Launch} {D : va_G} {nm : String} {cI cL cII cO : ClassId} {e0 o b : Nat} {h g : Nat → Nat} {xs : Nat → Int32} (hfl : l.stackTraces = false) (C : Cx κ l D code RL wsL_law 9 ret (TY cI cL cII cO) room_1 nm) (CXs : CxX κ b 5 xs) (ZE : EZ κ e0) (ZX9 : XZ κ TL) (hx : xs 1 < nI 0 ∨ nI 2 < xs 1) (kk : ∀ (w : va_W) (L : List (Option Value)), V κ 600000 7000000 w 1762 L [.int (nI 1)]) : V κ 100 2000 ((SW cI h jInit ++ [(o, .inl (cL, 1, .inr (.inl (fun _ => (0 : Int64)))))]) ++ (MF cI cII e0 g ((nI 0)))) 428 [some (.ref b), some (.ref (h 0)), some (.ref (g 0)), some (.ref o), some (.int (nI 0)), none, none, none, none] [] := by
  refine V.aload_n C dL_law_428 rfl ?_
  refine V.aload_n C dL_law_429 rfl ?_
  refine V.iload C dL_law_430 rfl ?_
  refine V.iconst C (v := nI 1) dL_law_432 (by decide) ?_
  refine V.iadd C dL_law_433 ?_
  refine V.topi (y := nI 1) (by decide +kernel) ?_
  refine V.sld C CXs (vp_in_nI (by decide) (by decide)) dL_law_434 ?_
  refine V.topi (y := xs 1) ((congrArg xs (nI_clamp (by decide)))) ?_
  refine V.aload_n C dL_law_435 rfl ?_
  refine V.iload C dL_law_436 rfl ?_
  refine V.iconst C (v := nI 2) dL_law_438 (by decide) ?_
  refine V.iadd C dL_law_439 ?_
  refine V.topi (y := nI 2) (by decide +kernel) ?_
  refine V.sld C CXs (vp_in_nI (by decide) (by decide)) dL_law_440 ?_
  refine V.topi (y := xs 2) ((congrArg xs (nI_clamp (by decide)))) ?_
  refine V.aload_n C dL_law_441 rfl ?_
  refine V.hS C ZX9 (X := (MF cI cII e0 g ((nI 0)))) (ct_L_person_x hfl rfl rfl (Or.inl (nc_a hx))) rfl gL_law_L_person (n := 4) ⟨by decide, by decide, by decide +kernel⟩ rfl rfl ⟨Nat.le_of_ble_eq_true rfl, Nat.le_of_ble_eq_true rfl⟩ ⟨Nat.le_of_ble_eq_true rfl, Nat.le_of_ble_eq_true rfl⟩ (Nat.le_of_ble_eq_true rfl) rfl dL_law_442 ?_
  refine V.topi (y := nI 1) rfl ?_
  refine V.istore C dL_law_445 (by decide) rfl ?_
  dsimp only [List.set]
  refine V.aload_n C dL_law_447 rfl ?_
  refine V.aload_n C dL_law_448 rfl ?_
  refine V.iload C dL_law_449 rfl ?_
  refine V.iconst C (v := nI 1) dL_law_451 (by decide) ?_
  refine V.iadd C dL_law_452 ?_
  refine V.topi (y := nI 1) (by decide +kernel) ?_
  refine V.sld C CXs (vp_in_nI (by decide) (by decide)) dL_law_453 ?_
  refine V.topi (y := xs 1) ((congrArg xs (nI_clamp (by decide)))) ?_
  refine V.aload_n C dL_law_454 rfl ?_
  refine V.iload C dL_law_455 rfl ?_
  refine V.iconst C (v := nI 2) dL_law_457 (by decide) ?_
  refine V.iadd C dL_law_458 ?_
  refine V.topi (y := nI 2) (by decide +kernel) ?_
  refine V.sld C CXs (vp_in_nI (by decide) (by decide)) dL_law_459 ?_
  refine V.topi (y := xs 2) ((congrArg xs (nI_clamp (by decide)))) ?_
  refine V.swapw ?_
  refine V.zVfx C ZE (X := _) (cz_X10_person_xa hx) rfl gLZ_person (n := 2) ⟨rfl, by decide, by decide, by decide +kernel⟩ rfl (q0 := 0) rfl rfl rfl ⟨Nat.le_of_ble_eq_true rfl, Nat.le_of_ble_eq_true rfl⟩ ⟨Nat.le_of_ble_eq_true rfl, Nat.le_of_ble_eq_true rfl⟩ (Nat.le_of_ble_eq_true rfl) rfl dL_law_460 (fun fs => ?_)
  refine V.istore C dL_law_463 (by decide) rfl ?_
  dsimp only [List.set]
  refine V.aload_n C dL_law_465 rfl ?_
  refine V.zVin C ZE (cz_X10_thrown (x := nI 1) rfl) gLZ_thrown (n := 0) ⟨rfl, by decide, by decide, by decide +kernel⟩ rfl (q0 := 0) rfl rfl rfl ⟨Nat.le_of_ble_eq_true rfl, Nat.le_of_ble_eq_true rfl⟩ ⟨Nat.le_of_ble_eq_true rfl, Nat.le_of_ble_eq_true rfl⟩ (Nat.le_of_ble_eq_true rfl) rfl dL_law_466 ?_
  refine V.iload C dL_law_469 rfl ?_
  refine V.icmp_eq C (tgt := 476) dL_law_471 (by decide) (fun c471 => ?_) (fun c471 => ?_)
  rotate_left
  · exfalso; exact absurd c471 (by decide +kernel)
  refine V.iload C dL_law_476 rfl ?_
  refine V.if_ne C (tgt := 493) dL_law_478 (by decide) (fun c478 => ?_) (fun c478 => ?_)
  rotate_left
  · exfalso; exact absurd c478 (by decide +kernel)
  refine V.goto C (tgt := 1755) dL_law_493 (by decide) ?_
  exact law_tail C CXs kk (Nat.le_of_ble_eq_true rfl) (Nat.le_of_ble_eq_true rfl) (lsub_s rfl (lsub_n (lsub_n (lsub_n (lsub_s rfl (lsub_n (lsub_n (lsub_n (lsub_n lsub_e)))))))))
set_option maxRecDepth 100000 in
set_option maxHeartbeats 4000000 in
theorem law_4_xb {κ : VK} {l : Launch} {D : va_G} {nm : String} {cI cL cII cO : ClassId} {e0 o b : Nat} {h g : Nat → Nat} {xs : Nat → Int32} (hfl : l.stackTraces = false) (C : Cx κ l D code RL wsL_law 9 ret (TY cI cL cII cO) room_1 nm) (CXs : CxX κ b 5 xs) (ZE : EZ κ e0) (ZX9 : XZ κ TL) (h1 : ¬ xs 1 < nI 0) (h2 : ¬ nI 2 < xs 1) (hy : xs 2 < nI 0 ∨ nI 1 < xs 2) (kk : ∀ (w : va_W) (L : List (Option Value)), V κ 600000 7000000 w 1762 L [.int (nI 1)]) : V κ 100 2000 ((SW cI h jInit ++ [(o, .inl (cL, 1, .inr (.inl (fun _ => (0 : Int64)))))]) ++ (MF cI cII e0 g ((nI 0)))) 428 [some (.ref b), some (.ref (h 0)), some (.ref (g 0)), some (.ref o), some (.int (nI 0)), none, none, none, none] [] := by
  refine V.aload_n C dL_law_428 rfl ?_
  refine V.aload_n C dL_law_429 rfl ?_
  refine V.iload C dL_law_430 rfl ?_
  refine V.iconst C (v := nI 1) dL_law_432 (by decide) ?_
  refine V.iadd C dL_law_433 ?_
  refine V.topi (y := nI 1) (by decide +kernel) ?_
  refine V.sld C CXs (vp_in_nI (by decide) (by decide)) dL_law_434 ?_
  refine V.topi (y := xs 1) ((congrArg xs (nI_clamp (by decide)))) ?_
  refine V.aload_n C dL_law_435 rfl ?_
  refine V.iload C dL_law_436 rfl ?_
  refine V.iconst C (v := nI 2) dL_law_438 (by decide) ?_
  refine V.iadd C dL_law_439 ?_
  refine V.topi (y := nI 2) (by decide +kernel) ?_
  refine V.sld C CXs (vp_in_nI (by decide) (by decide)) dL_law_440 ?_
  refine V.topi (y := xs 2) ((congrArg xs (nI_clamp (by decide)))) ?_
  refine V.aload_n C dL_law_441 rfl ?_
  refine V.hS C ZX9 (X := (MF cI cII e0 g ((nI 0)))) (ct_L_person_x hfl rfl rfl (Or.inr (nc_b hy))) rfl gL_law_L_person (n := 4) ⟨by decide, by decide, by decide +kernel⟩ rfl rfl ⟨Nat.le_of_ble_eq_true rfl, Nat.le_of_ble_eq_true rfl⟩ ⟨Nat.le_of_ble_eq_true rfl, Nat.le_of_ble_eq_true rfl⟩ (Nat.le_of_ble_eq_true rfl) rfl dL_law_442 ?_
  refine V.topi (y := nI 1) rfl ?_
  refine V.istore C dL_law_445 (by decide) rfl ?_
  dsimp only [List.set]
  refine V.aload_n C dL_law_447 rfl ?_
  refine V.aload_n C dL_law_448 rfl ?_
  refine V.iload C dL_law_449 rfl ?_
  refine V.iconst C (v := nI 1) dL_law_451 (by decide) ?_
  refine V.iadd C dL_law_452 ?_
  refine V.topi (y := nI 1) (by decide +kernel) ?_
  refine V.sld C CXs (vp_in_nI (by decide) (by decide)) dL_law_453 ?_
  refine V.topi (y := xs 1) ((congrArg xs (nI_clamp (by decide)))) ?_
  refine V.aload_n C dL_law_454 rfl ?_
  refine V.iload C dL_law_455 rfl ?_
  refine V.iconst C (v := nI 2) dL_law_457 (by decide) ?_
  refine V.iadd C dL_law_458 ?_
  refine V.topi (y := nI 2) (by decide +kernel) ?_
  refine V.sld C CXs (vp_in_nI (by decide) (by decide)) dL_law_459 ?_
  refine V.topi (y := xs 2) ((congrArg xs (nI_clamp (by decide)))) ?_
  refine V.swapw ?_
  refine V.zVfx C ZE (X := _) (cz_X10_person_xb h1 h2 hy) rfl gLZ_person (n := 2) ⟨rfl, by decide, by decide, by decide +kernel⟩ rfl (q0 := 0) rfl rfl rfl ⟨Nat.le_of_ble_eq_true rfl, Nat.le_of_ble_eq_true rfl⟩ ⟨Nat.le_of_ble_eq_true rfl, Nat.le_of_ble_eq_true rfl⟩ (Nat.le_of_ble_eq_true rfl) rfl dL_law_460 (fun fs => ?_)
  refine V.istore C dL_law_463 (by decide) rfl ?_
  dsimp only [List.set]
  refine V.aload_n C dL_law_465 rfl ?_
  refine V.zVin C ZE (cz_X10_thrown (x := nI 1) rfl) gLZ_thrown (n := 0) ⟨rfl, by decide, by decide, by decide +kernel⟩ rfl (q0 := 0) rfl rfl rfl ⟨Nat.le_of_ble_eq_true rfl, Nat.le_of_ble_eq_true rfl⟩ ⟨Nat.le_of_ble_eq_true rfl, Nat.le_of_ble_eq_true rfl⟩ (Nat.le_of_ble_eq_true rfl) rfl dL_law_466 ?_
  refine V.iload C dL_law_469 rfl ?_
  refine V.icmp_eq C (tgt := 476) dL_law_471 (by decide) (fun c471 => ?_) (fun c471 => ?_)
  rotate_left
  · exfalso; exact absurd c471 (by decide +kernel)
  refine V.iload C dL_law_476 rfl ?_
  refine V.if_ne C (tgt := 493) dL_law_478 (by decide) (fun c478 => ?_) (fun c478 => ?_)
  rotate_left
  · exfalso; exact absurd c478 (by decide +kernel)
  refine V.goto C (tgt := 1755) dL_law_493 (by decide) ?_
  exact law_tail C CXs kk (Nat.le_of_ble_eq_true rfl) (Nat.le_of_ble_eq_true rfl) (lsub_s rfl (lsub_n (lsub_n (lsub_n (lsub_s rfl (lsub_n (lsub_n (lsub_n (lsub_n lsub_e)))))))))
set_option maxRecDepth 100000 in
set_option maxHeartbeats 4000000 in
theorem law_5_xa {κ : VK} {l : Launch} {D : va_G} {nm : String} {cI cL cII cO : ClassId} {e0 o b : Nat} {h g : Nat → Nat} {xs : Nat → Int32} (hfl : l.stackTraces = false) (C : Cx κ l D code RL wsL_law 9 ret (TY cI cL cII cO) room_1 nm) (CXs : CxX κ b 5 xs) (ZE : EZ κ e0) (ZX9 : XZ κ TL) (hx : xs 1 < nI 0 ∨ nI 2 < xs 1) (kk : ∀ (w : va_W) (L : List (Option Value)), V κ 600000 7000000 w 1762 L [.int (nI 1)]) : V κ 100 2000 ((SW cI h jInit ++ [(o, .inl (cL, 1, .inr (.inl (fun _ => (0 : Int64)))))]) ++ (MF cI cII e0 g ((nI 0)))) 496 [some (.ref b), some (.ref (h 0)), some (.ref (g 0)), some (.ref o), some (.int (nI 0)), none, none, none, none] [] := by
  refine V.aload_n C dL_law_496 rfl ?_
  refine V.aload_n C dL_law_497 rfl ?_
  refine V.iload C dL_law_498 rfl ?_
  refine V.iconst C (v := nI 1) dL_law_500 (by decide) ?_
  refine V.iadd C dL_law_501 ?_
  refine V.topi (y := nI 1) (by decide +kernel) ?_
  refine V.sld C CXs (vp_in_nI (by decide) (by decide)) dL_law_502 ?_
  refine V.topi (y := xs 1) ((congrArg xs (nI_clamp (by decide)))) ?_
  refine V.aload_n C dL_law_503 rfl ?_
  refine V.iload C dL_law_504 rfl ?_
  refine V.iconst C (v := nI 2) dL_law_506 (by decide) ?_
  refine V.iadd C dL_law_507 ?_
  refine V.topi (y := nI 2) (by decide +kernel) ?_
  refine V.sld C CXs (vp_in_nI (by decide) (by decide)) dL_law_508 ?_
  refine V.topi (y := xs 2) ((congrArg xs (nI_clamp (by decide)))) ?_
  refine V.aload_n C dL_law_509 rfl ?_
  refine V.iload C dL_law_510 rfl ?_
  refine V.iconst C (v := nI 3) dL_law_512 (by decide) ?_
  refine V.iadd C dL_law_513 ?_
  refine V.topi (y := nI 3) (by decide +kernel) ?_
  refine V.sld C CXs (vp_in_nI (by decide) (by decide)) dL_law_514 ?_
  refine V.topi (y := xs 3) ((congrArg xs (nI_clamp (by decide)))) ?_
  refine V.aload_n C dL_law_515 rfl ?_
  refine V.hS C ZX9 (X := (MF cI cII e0 g ((nI 0)))) (ct_L_target_x hfl rfl rfl (Or.inl (nc_a hx))) rfl gL_law_L_target (n := 5) ⟨by decide, by decide, by decide +kernel⟩ rfl rfl ⟨Nat.le_of_ble_eq_true rfl, Nat.le_of_ble_eq_true rfl⟩ ⟨Nat.le_of_ble_eq_true rfl, Nat.le_of_ble_eq_true rfl⟩ (Nat.le_of_ble_eq_true rfl) rfl dL_law_516 ?_
  refine V.topi (y := nI 1) rfl ?_
  refine V.istore C dL_law_519 (by decide) rfl ?_
  dsimp only [List.set]
  refine V.aload_n C dL_law_521 rfl ?_
  refine V.aload_n C dL_law_522 rfl ?_
  refine V.iload C dL_law_523 rfl ?_
  refine V.iconst C (v := nI 1) dL_law_525 (by decide) ?_
  refine V.iadd C dL_law_526 ?_
  refine V.topi (y := nI 1) (by decide +kernel) ?_
  refine V.sld C CXs (vp_in_nI (by decide) (by decide)) dL_law_527 ?_
  refine V.topi (y := xs 1) ((congrArg xs (nI_clamp (by decide)))) ?_
  refine V.aload_n C dL_law_528 rfl ?_
  refine V.iload C dL_law_529 rfl ?_
  refine V.iconst C (v := nI 2) dL_law_531 (by decide) ?_
  refine V.iadd C dL_law_532 ?_
  refine V.topi (y := nI 2) (by decide +kernel) ?_
  refine V.sld C CXs (vp_in_nI (by decide) (by decide)) dL_law_533 ?_
  refine V.topi (y := xs 2) ((congrArg xs (nI_clamp (by decide)))) ?_
  refine V.aload_n C dL_law_534 rfl ?_
  refine V.iload C dL_law_535 rfl ?_
  refine V.iconst C (v := nI 3) dL_law_537 (by decide) ?_
  refine V.iadd C dL_law_538 ?_
  refine V.topi (y := nI 3) (by decide +kernel) ?_
  refine V.sld C CXs (vp_in_nI (by decide) (by decide)) dL_law_539 ?_
  refine V.topi (y := xs 3) ((congrArg xs (nI_clamp (by decide)))) ?_
  refine V.swapw ?_
  refine V.zVfx C ZE (X := _) (cz_X10_target_xa hx) rfl gLZ_target (n := 3) ⟨rfl, by decide, by decide, by decide +kernel⟩ rfl (q0 := 0) rfl rfl rfl ⟨Nat.le_of_ble_eq_true rfl, Nat.le_of_ble_eq_true rfl⟩ ⟨Nat.le_of_ble_eq_true rfl, Nat.le_of_ble_eq_true rfl⟩ (Nat.le_of_ble_eq_true rfl) rfl dL_law_540 (fun fs => ?_)
  refine V.istore C dL_law_543 (by decide) rfl ?_
  dsimp only [List.set]
  refine V.aload_n C dL_law_545 rfl ?_
  refine V.zVin C ZE (cz_X10_thrown (x := nI 1) rfl) gLZ_thrown (n := 0) ⟨rfl, by decide, by decide, by decide +kernel⟩ rfl (q0 := 0) rfl rfl rfl ⟨Nat.le_of_ble_eq_true rfl, Nat.le_of_ble_eq_true rfl⟩ ⟨Nat.le_of_ble_eq_true rfl, Nat.le_of_ble_eq_true rfl⟩ (Nat.le_of_ble_eq_true rfl) rfl dL_law_546 ?_
  refine V.iload C dL_law_549 rfl ?_
  refine V.icmp_eq C (tgt := 556) dL_law_551 (by decide) (fun c551 => ?_) (fun c551 => ?_)
  rotate_left
  · exfalso; exact absurd c551 (by decide +kernel)
  refine V.iload C dL_law_556 rfl ?_
  refine V.if_ne C (tgt := 573) dL_law_558 (by decide) (fun c558 => ?_) (fun c558 => ?_)
  rotate_left
  · exfalso; exact absurd c558 (by decide +kernel)
  refine V.goto C (tgt := 1755) dL_law_573 (by decide) ?_
  exact law_tail C CXs kk (Nat.le_of_ble_eq_true rfl) (Nat.le_of_ble_eq_true rfl) (lsub_s rfl (lsub_n (lsub_n (lsub_n (lsub_s rfl (lsub_n (lsub_n (lsub_n (lsub_n lsub_e)))))))))
set_option maxRecDepth 100000 in
set_option maxHeartbeats 4000000 in
theorem law_5_xb {κ : VK} {l : Launch} {D : va_G} {nm : String} {cI cL cII cO : ClassId} {e0 o b : Nat} {h g : Nat → Nat} {xs : Nat → Int32} (hfl : l.stackTraces = false) (C : Cx κ l D code RL wsL_law 9 ret (TY cI cL cII cO) room_1 nm) (CXs : CxX κ b 5 xs) (ZE : EZ κ e0) (ZX9 : XZ κ TL) (h1 : ¬ xs 1 < nI 0) (h2 : ¬ nI 2 < xs 1) (hy : xs 2 < nI 0 ∨ nI 1 < xs 2) (kk : ∀ (w : va_W) (L : List (Option Value)), V κ 600000 7000000 w 1762 L [.int (nI 1)]) : V κ 100 2000 ((SW cI h jInit ++ [(o, .inl (cL, 1, .inr (.inl (fun _ => (0 : Int64)))))]) ++ (MF cI cII e0 g ((nI 0)))) 496 [some (.ref b), some (.ref (h 0)), some (.ref (g 0)), some (.ref o), some (.int (nI 0)), none, none, none, none] [] := by
  refine V.aload_n C dL_law_496 rfl ?_
  refine V.aload_n C dL_law_497 rfl ?_
  refine V.iload C dL_law_498 rfl ?_
  refine V.iconst C (v := nI 1) dL_law_500 (by decide) ?_
  refine V.iadd C dL_law_501 ?_
  refine V.topi (y := nI 1) (by decide +kernel) ?_
  refine V.sld C CXs (vp_in_nI (by decide) (by decide)) dL_law_502 ?_
  refine V.topi (y := xs 1) ((congrArg xs (nI_clamp (by decide)))) ?_
  refine V.aload_n C dL_law_503 rfl ?_
  refine V.iload C dL_law_504 rfl ?_
  refine V.iconst C (v := nI 2) dL_law_506 (by decide) ?_
  refine V.iadd C dL_law_507 ?_
  refine V.topi (y := nI 2) (by decide +kernel) ?_
  refine V.sld C CXs (vp_in_nI (by decide) (by decide)) dL_law_508 ?_
  refine V.topi (y := xs 2) ((congrArg xs (nI_clamp (by decide)))) ?_
  refine V.aload_n C dL_law_509 rfl ?_
  refine V.iload C dL_law_510 rfl ?_
  refine V.iconst C (v := nI 3) dL_law_512 (by decide) ?_
  refine V.iadd C dL_law_513 ?_
  refine V.topi (y := nI 3) (by decide +kernel) ?_
  refine V.sld C CXs (vp_in_nI (by decide) (by decide)) dL_law_514 ?_
  refine V.topi (y := xs 3) ((congrArg xs (nI_clamp (by decide)))) ?_
  refine V.aload_n C dL_law_515 rfl ?_
  refine V.hS C ZX9 (X := (MF cI cII e0 g ((nI 0)))) (ct_L_target_x hfl rfl rfl (Or.inr (nc_b hy))) rfl gL_law_L_target (n := 5) ⟨by decide, by decide, by decide +kernel⟩ rfl rfl ⟨Nat.le_of_ble_eq_true rfl, Nat.le_of_ble_eq_true rfl⟩ ⟨Nat.le_of_ble_eq_true rfl, Nat.le_of_ble_eq_true rfl⟩ (Nat.le_of_ble_eq_true rfl) rfl dL_law_516 ?_
  refine V.topi (y := nI 1) rfl ?_
  refine V.istore C dL_law_519 (by decide) rfl ?_
  dsimp only [List.set]
  refine V.aload_n C dL_law_521 rfl ?_
  refine V.aload_n C dL_law_522 rfl ?_
  refine V.iload C dL_law_523 rfl ?_
  refine V.iconst C (v := nI 1) dL_law_525 (by decide) ?_
  refine V.iadd C dL_law_526 ?_
  refine V.topi (y := nI 1) (by decide +kernel) ?_
  refine V.sld C CXs (vp_in_nI (by decide) (by decide)) dL_law_527 ?_
  refine V.topi (y := xs 1) ((congrArg xs (nI_clamp (by decide)))) ?_
  refine V.aload_n C dL_law_528 rfl ?_
  refine V.iload C dL_law_529 rfl ?_
  refine V.iconst C (v := nI 2) dL_law_531 (by decide) ?_
  refine V.iadd C dL_law_532 ?_
  refine V.topi (y := nI 2) (by decide +kernel) ?_
  refine V.sld C CXs (vp_in_nI (by decide) (by decide)) dL_law_533 ?_
  refine V.topi (y := xs 2) ((congrArg xs (nI_clamp (by decide)))) ?_
  refine V.aload_n C dL_law_534 rfl ?_
  refine V.iload C dL_law_535 rfl ?_
  refine V.iconst C (v := nI 3) dL_law_537 (by decide) ?_
  refine V.iadd C dL_law_538 ?_
  refine V.topi (y := nI 3) (by decide +kernel) ?_
  refine V.sld C CXs (vp_in_nI (by decide) (by decide)) dL_law_539 ?_
  refine V.topi (y := xs 3) ((congrArg xs (nI_clamp (by decide)))) ?_
  refine V.swapw ?_
  refine V.zVfx C ZE (X := _) (cz_X10_target_xb h1 h2 hy) rfl gLZ_target (n := 3) ⟨rfl, by decide, by decide, by decide +kernel⟩ rfl (q0 := 0) rfl rfl rfl ⟨Nat.le_of_ble_eq_true rfl, Nat.le_of_ble_eq_true rfl⟩ ⟨Nat.le_of_ble_eq_true rfl, Nat.le_of_ble_eq_true rfl⟩ (Nat.le_of_ble_eq_true rfl) rfl dL_law_540 (fun fs => ?_)
  refine V.istore C dL_law_543 (by decide) rfl ?_
  dsimp only [List.set]
  refine V.aload_n C dL_law_545 rfl ?_
  refine V.zVin C ZE (cz_X10_thrown (x := nI 1) rfl) gLZ_thrown (n := 0) ⟨rfl, by decide, by decide, by decide +kernel⟩ rfl (q0 := 0) rfl rfl rfl ⟨Nat.le_of_ble_eq_true rfl, Nat.le_of_ble_eq_true rfl⟩ ⟨Nat.le_of_ble_eq_true rfl, Nat.le_of_ble_eq_true rfl⟩ (Nat.le_of_ble_eq_true rfl) rfl dL_law_546 ?_
  refine V.iload C dL_law_549 rfl ?_
  refine V.icmp_eq C (tgt := 556) dL_law_551 (by decide) (fun c551 => ?_) (fun c551 => ?_)
  rotate_left
  · exfalso; exact absurd c551 (by decide +kernel)
  refine V.iload C dL_law_556 rfl ?_
  refine V.if_ne C (tgt := 573) dL_law_558 (by decide) (fun c558 => ?_) (fun c558 => ?_)
  rotate_left
  · exfalso; exact absurd c558 (by decide +kernel)
  refine V.goto C (tgt := 1755) dL_law_573 (by decide) ?_
  exact law_tail C CXs kk (Nat.le_of_ble_eq_true rfl) (Nat.le_of_ble_eq_true rfl) (lsub_s rfl (lsub_n (lsub_n (lsub_n (lsub_s rfl (lsub_n (lsub_n (lsub_n (lsub_n lsub_e)))))))))
set_option maxRecDepth 100000 in
set_option maxHeartbeats 4000000 in
theorem law_7_xa {κ : VK} {l : Launch} {D : va_G} {nm : String} {cI cL cII cO : ClassId} {e0 o b : Nat} {h g : Nat → Nat} {xs : Nat → Int32} (hfl : l.stackTraces = false) (C : Cx κ l D code RL wsL_law 9 ret (TY cI cL cII cO) room_1 nm) (CXs : CxX κ b 5 xs) (ZE : EZ κ e0) (ZX9 : XZ κ TL) (hx : xs 1 < nI 0 ∨ nI 2 < xs 1) (kk : ∀ (w : va_W) (L : List (Option Value)), V κ 600000 7000000 w 1762 L [.int (nI 1)]) : V κ 100 2000 ((SW cI h jInit ++ [(o, .inl (cL, 1, .inr (.inl (fun _ => (0 : Int64)))))]) ++ (MF cI cII e0 g ((nI 0)))) 632 [some (.ref b), some (.ref (h 0)), some (.ref (g 0)), some (.ref o), some (.int (nI 0)), none, none, none, none] [] := by
  refine V.aload_n C dL_law_632 rfl ?_
  refine V.aload_n C dL_law_633 rfl ?_
  refine V.iload C dL_law_634 rfl ?_
  refine V.iconst C (v := nI 1) dL_law_636 (by decide) ?_
  refine V.iadd C dL_law_637 ?_
  refine V.topi (y := nI 1) (by decide +kernel) ?_
  refine V.sld C CXs (vp_in_nI (by decide) (by decide)) dL_law_638 ?_
  refine V.topi (y := xs 1) ((congrArg xs (nI_clamp (by decide)))) ?_
  refine V.aload_n C dL_law_639 rfl ?_
  refine V.iload C dL_law_640 rfl ?_
  refine V.iconst C (v := nI 2) dL_law_642 (by decide) ?_
  refine V.iadd C dL_law_643 ?_
  refine V.topi (y := nI 2) (by decide +kernel) ?_
  refine V.sld C CXs (vp_in_nI (by decide) (by decide)) dL_law_644 ?_
  refine V.topi (y := xs 2) ((congrArg xs (nI_clamp (by decide)))) ?_
  refine V.aload_n C dL_law_645 rfl ?_
  refine V.iload C dL_law_646 rfl ?_
  refine V.iconst C (v := nI 3) dL_law_648 (by decide) ?_
  refine V.iadd C dL_law_649 ?_
  refine V.topi (y := nI 3) (by decide +kernel) ?_
  refine V.sld C CXs (vp_in_nI (by decide) (by decide)) dL_law_650 ?_
  refine V.topi (y := xs 3) ((congrArg xs (nI_clamp (by decide)))) ?_
  refine V.aload_n C dL_law_651 rfl ?_
  refine V.hS C ZX9 (X := (MF cI cII e0 g ((nI 0)))) (ct_L_ofCell_x hfl rfl rfl (Or.inl (nc_a hx))) rfl gL_law_L_ofCell (n := 5) ⟨by decide, by decide, by decide +kernel⟩ rfl rfl ⟨Nat.le_of_ble_eq_true rfl, Nat.le_of_ble_eq_true rfl⟩ ⟨Nat.le_of_ble_eq_true rfl, Nat.le_of_ble_eq_true rfl⟩ (Nat.le_of_ble_eq_true rfl) rfl dL_law_652 ?_
  refine V.topi (y := nI 1) rfl ?_
  refine V.istore C dL_law_655 (by decide) rfl ?_
  dsimp only [List.set]
  refine V.aload_n C dL_law_657 rfl ?_
  refine V.aload_n C dL_law_658 rfl ?_
  refine V.iload C dL_law_659 rfl ?_
  refine V.iconst C (v := nI 1) dL_law_661 (by decide) ?_
  refine V.iadd C dL_law_662 ?_
  refine V.topi (y := nI 1) (by decide +kernel) ?_
  refine V.sld C CXs (vp_in_nI (by decide) (by decide)) dL_law_663 ?_
  refine V.topi (y := xs 1) ((congrArg xs (nI_clamp (by decide)))) ?_
  refine V.aload_n C dL_law_664 rfl ?_
  refine V.iload C dL_law_665 rfl ?_
  refine V.iconst C (v := nI 2) dL_law_667 (by decide) ?_
  refine V.iadd C dL_law_668 ?_
  refine V.topi (y := nI 2) (by decide +kernel) ?_
  refine V.sld C CXs (vp_in_nI (by decide) (by decide)) dL_law_669 ?_
  refine V.topi (y := xs 2) ((congrArg xs (nI_clamp (by decide)))) ?_
  refine V.aload_n C dL_law_670 rfl ?_
  refine V.iload C dL_law_671 rfl ?_
  refine V.iconst C (v := nI 3) dL_law_673 (by decide) ?_
  refine V.iadd C dL_law_674 ?_
  refine V.topi (y := nI 3) (by decide +kernel) ?_
  refine V.sld C CXs (vp_in_nI (by decide) (by decide)) dL_law_675 ?_
  refine V.topi (y := xs 3) ((congrArg xs (nI_clamp (by decide)))) ?_
  refine V.swapw ?_
  refine V.zVfx C ZE (X := _) (cz_X10_ofCell_xa hx) rfl gLZ_ofCell (n := 3) ⟨rfl, by decide, by decide, by decide +kernel⟩ rfl (q0 := 0) rfl rfl rfl ⟨Nat.le_of_ble_eq_true rfl, Nat.le_of_ble_eq_true rfl⟩ ⟨Nat.le_of_ble_eq_true rfl, Nat.le_of_ble_eq_true rfl⟩ (Nat.le_of_ble_eq_true rfl) rfl dL_law_676 (fun fs => ?_)
  refine V.istore C dL_law_679 (by decide) rfl ?_
  dsimp only [List.set]
  refine V.aload_n C dL_law_681 rfl ?_
  refine V.zVin C ZE (cz_X10_thrown (x := nI 1) rfl) gLZ_thrown (n := 0) ⟨rfl, by decide, by decide, by decide +kernel⟩ rfl (q0 := 0) rfl rfl rfl ⟨Nat.le_of_ble_eq_true rfl, Nat.le_of_ble_eq_true rfl⟩ ⟨Nat.le_of_ble_eq_true rfl, Nat.le_of_ble_eq_true rfl⟩ (Nat.le_of_ble_eq_true rfl) rfl dL_law_682 ?_
  refine V.iload C dL_law_685 rfl ?_
  refine V.icmp_eq C (tgt := 692) dL_law_687 (by decide) (fun c687 => ?_) (fun c687 => ?_)
  rotate_left
  · exfalso; exact absurd c687 (by decide +kernel)
  refine V.iload C dL_law_692 rfl ?_
  refine V.if_ne C (tgt := 709) dL_law_694 (by decide) (fun c694 => ?_) (fun c694 => ?_)
  rotate_left
  · exfalso; exact absurd c694 (by decide +kernel)
  refine V.goto C (tgt := 1755) dL_law_709 (by decide) ?_
  exact law_tail C CXs kk (Nat.le_of_ble_eq_true rfl) (Nat.le_of_ble_eq_true rfl) (lsub_s rfl (lsub_n (lsub_n (lsub_n (lsub_s rfl (lsub_n (lsub_n (lsub_n (lsub_n lsub_e)))))))))
set_option maxRecDepth 100000 in
set_option maxHeartbeats 4000000 in
theorem law_7_xb {κ : VK} {l : Launch} {D : va_G} {nm : String} {cI cL cII cO : ClassId} {e0 o b : Nat} {h g : Nat → Nat} {xs : Nat → Int32} (hfl : l.stackTraces = false) (C : Cx κ l D code RL wsL_law 9 ret (TY cI cL cII cO) room_1 nm) (CXs : CxX κ b 5 xs) (ZE : EZ κ e0) (ZX9 : XZ κ TL) (h1 : ¬ xs 1 < nI 0) (h2 : ¬ nI 2 < xs 1) (hy : xs 2 < nI 0 ∨ nI 1 < xs 2) (kk : ∀ (w : va_W) (L : List (Option Value)), V κ 600000 7000000 w 1762 L [.int (nI 1)]) : V κ 100 2000 ((SW cI h jInit ++ [(o, .inl (cL, 1, .inr (.inl (fun _ => (0 : Int64)))))]) ++ (MF cI cII e0 g ((nI 0)))) 632 [some (.ref b), some (.ref (h 0)), some (.ref (g 0)), some (.ref o), some (.int (nI 0)), none, none, none, none] [] := by
  refine V.aload_n C dL_law_632 rfl ?_
  refine V.aload_n C dL_law_633 rfl ?_
  refine V.iload C dL_law_634 rfl ?_
  refine V.iconst C (v := nI 1) dL_law_636 (by decide) ?_
  refine V.iadd C dL_law_637 ?_
  refine V.topi (y := nI 1) (by decide +kernel) ?_
  refine V.sld C CXs (vp_in_nI (by decide) (by decide)) dL_law_638 ?_
  refine V.topi (y := xs 1) ((congrArg xs (nI_clamp (by decide)))) ?_
  refine V.aload_n C dL_law_639 rfl ?_
  refine V.iload C dL_law_640 rfl ?_
  refine V.iconst C (v := nI 2) dL_law_642 (by decide) ?_
  refine V.iadd C dL_law_643 ?_
  refine V.topi (y := nI 2) (by decide +kernel) ?_
  refine V.sld C CXs (vp_in_nI (by decide) (by decide)) dL_law_644 ?_
  refine V.topi (y := xs 2) ((congrArg xs (nI_clamp (by decide)))) ?_
  refine V.aload_n C dL_law_645 rfl ?_
  refine V.iload C dL_law_646 rfl ?_
  refine V.iconst C (v := nI 3) dL_law_648 (by decide) ?_
  refine V.iadd C dL_law_649 ?_
  refine V.topi (y := nI 3) (by decide +kernel) ?_
  refine V.sld C CXs (vp_in_nI (by decide) (by decide)) dL_law_650 ?_
  refine V.topi (y := xs 3) ((congrArg xs (nI_clamp (by decide)))) ?_
  refine V.aload_n C dL_law_651 rfl ?_
  refine V.hS C ZX9 (X := (MF cI cII e0 g ((nI 0)))) (ct_L_ofCell_x hfl rfl rfl (Or.inr (nc_b hy))) rfl gL_law_L_ofCell (n := 5) ⟨by decide, by decide, by decide +kernel⟩ rfl rfl ⟨Nat.le_of_ble_eq_true rfl, Nat.le_of_ble_eq_true rfl⟩ ⟨Nat.le_of_ble_eq_true rfl, Nat.le_of_ble_eq_true rfl⟩ (Nat.le_of_ble_eq_true rfl) rfl dL_law_652 ?_
  refine V.topi (y := nI 1) rfl ?_
  refine V.istore C dL_law_655 (by decide) rfl ?_
  dsimp only [List.set]
  refine V.aload_n C dL_law_657 rfl ?_
  refine V.aload_n C dL_law_658 rfl ?_
  refine V.iload C dL_law_659 rfl ?_
  refine V.iconst C (v := nI 1) dL_law_661 (by decide) ?_
  refine V.iadd C dL_law_662 ?_
  refine V.topi (y := nI 1) (by decide +kernel) ?_
  refine V.sld C CXs (vp_in_nI (by decide) (by decide)) dL_law_663 ?_
  refine V.topi (y := xs 1) ((congrArg xs (nI_clamp (by decide)))) ?_
  refine V.aload_n C dL_law_664 rfl ?_
  refine V.iload C dL_law_665 rfl ?_
  refine V.iconst C (v := nI 2) dL_law_667 (by decide) ?_
  refine V.iadd C dL_law_668 ?_
  refine V.topi (y := nI 2) (by decide +kernel) ?_
  refine V.sld C CXs (vp_in_nI (by decide) (by decide)) dL_law_669 ?_
  refine V.topi (y := xs 2) ((congrArg xs (nI_clamp (by decide)))) ?_
  refine V.aload_n C dL_law_670 rfl ?_
  refine V.iload C dL_law_671 rfl ?_
  refine V.iconst C (v := nI 3) dL_law_673 (by decide) ?_
  refine V.iadd C dL_law_674 ?_
  refine V.topi (y := nI 3) (by decide +kernel) ?_
  refine V.sld C CXs (vp_in_nI (by decide) (by decide)) dL_law_675 ?_
  refine V.topi (y := xs 3) ((congrArg xs (nI_clamp (by decide)))) ?_
  refine V.swapw ?_
  refine V.zVfx C ZE (X := _) (cz_X10_ofCell_xb h1 h2 hy) rfl gLZ_ofCell (n := 3) ⟨rfl, by decide, by decide, by decide +kernel⟩ rfl (q0 := 0) rfl rfl rfl ⟨Nat.le_of_ble_eq_true rfl, Nat.le_of_ble_eq_true rfl⟩ ⟨Nat.le_of_ble_eq_true rfl, Nat.le_of_ble_eq_true rfl⟩ (Nat.le_of_ble_eq_true rfl) rfl dL_law_676 (fun fs => ?_)
  refine V.istore C dL_law_679 (by decide) rfl ?_
  dsimp only [List.set]
  refine V.aload_n C dL_law_681 rfl ?_
  refine V.zVin C ZE (cz_X10_thrown (x := nI 1) rfl) gLZ_thrown (n := 0) ⟨rfl, by decide, by decide, by decide +kernel⟩ rfl (q0 := 0) rfl rfl rfl ⟨Nat.le_of_ble_eq_true rfl, Nat.le_of_ble_eq_true rfl⟩ ⟨Nat.le_of_ble_eq_true rfl, Nat.le_of_ble_eq_true rfl⟩ (Nat.le_of_ble_eq_true rfl) rfl dL_law_682 ?_
  refine V.iload C dL_law_685 rfl ?_
  refine V.icmp_eq C (tgt := 692) dL_law_687 (by decide) (fun c687 => ?_) (fun c687 => ?_)
  rotate_left
  · exfalso; exact absurd c687 (by decide +kernel)
  refine V.iload C dL_law_692 rfl ?_
  refine V.if_ne C (tgt := 709) dL_law_694 (by decide) (fun c694 => ?_) (fun c694 => ?_)
  rotate_left
  · exfalso; exact absurd c694 (by decide +kernel)
  refine V.goto C (tgt := 1755) dL_law_709 (by decide) ?_
  exact law_tail C CXs kk (Nat.le_of_ble_eq_true rfl) (Nat.le_of_ble_eq_true rfl) (lsub_s rfl (lsub_n (lsub_n (lsub_n (lsub_s rfl (lsub_n (lsub_n (lsub_n (lsub_n lsub_e)))))))))
set_option maxRecDepth 100000 in
set_option maxHeartbeats 4000000 in
theorem law_4_ok {κ : VK} {l : Launch} {D : va_G} {nm : String} {cI cL cII cO : ClassId} {e0 o b : Nat} {h g : Nat → Nat} {xs : Nat → Int32} (hfl : l.stackTraces = false) (C : Cx κ l D code RL wsL_law 9 ret (TY cI cL cII cO) room_1 nm) (CXs : CxX κ b 5 xs) (ZE : EZ κ e0) (ZX9 : XZ κ TL) {a b9 : Nat} (ha : a < 3) (hb : b9 < 2) (e1 : xs 1 = nI a) (e2 : xs 2 = nI b9) (kk : ∀ (w : va_W) (L : List (Option Value)), V κ 600000 7000000 w 1762 L [.int (nI 1)]) : V κ 100 2000 ((SW cI h jInit ++ [(o, .inl (cL, 1, .inr (.inl (fun _ => (0 : Int64)))))]) ++ (MF cI cII e0 g ((nI 0)))) 428 [some (.ref b), some (.ref (h 0)), some (.ref (g 0)), some (.ref o), some (.int (nI 0)), none, none, none, none] [] := by
  refine V.aload_n C dL_law_428 rfl ?_
  refine V.aload_n C dL_law_429 rfl ?_
  refine V.iload C dL_law_430 rfl ?_
  refine V.iconst C (v := nI 1) dL_law_432 (by decide) ?_
  refine V.iadd C dL_law_433 ?_
  refine V.topi (y := nI 1) (by decide +kernel) ?_
  refine V.sld C CXs (vp_in_nI (by decide) (by decide)) dL_law_434 ?_
  refine V.topi (y := nI a) ((congrArg xs (nI_clamp (by decide))).trans e1) ?_
  refine V.aload_n C dL_law_435 rfl ?_
  refine V.iload C dL_law_436 rfl ?_
  refine V.iconst C (v := nI 2) dL_law_438 (by decide) ?_
  refine V.iadd C dL_law_439 ?_
  refine V.topi (y := nI 2) (by decide +kernel) ?_
  refine V.sld C CXs (vp_in_nI (by decide) (by decide)) dL_law_440 ?_
  refine V.topi (y := nI b9) ((congrArg xs (nI_clamp (by decide))).trans e2) ?_
  refine V.aload_n C dL_law_441 rfl ?_
  refine V.hS C ZX9 (X := (MF cI cII e0 g ((nI 0)))) (ct_L_person_ok hfl rfl rfl ha hb) rfl gL_law_L_person (n := 4) ⟨by decide, by decide, by decide +kernel⟩ rfl rfl ⟨Nat.le_of_ble_eq_true rfl, Nat.le_of_ble_eq_true rfl⟩ ⟨Nat.le_of_ble_eq_true rfl, Nat.le_of_ble_eq_true rfl⟩ (Nat.le_of_ble_eq_true rfl) rfl dL_law_442 ?_
  refine V.topi (y := nI 0) rfl ?_
  refine V.istore C dL_law_445 (by decide) rfl ?_
  dsimp only [List.set]
  refine V.aload_n C dL_law_447 rfl ?_
  refine V.aload_n C dL_law_448 rfl ?_
  refine V.iload C dL_law_449 rfl ?_
  refine V.iconst C (v := nI 1) dL_law_451 (by decide) ?_
  refine V.iadd C dL_law_452 ?_
  refine V.topi (y := nI 1) (by decide +kernel) ?_
  refine V.sld C CXs (vp_in_nI (by decide) (by decide)) dL_law_453 ?_
  refine V.topi (y := nI a) ((congrArg xs (nI_clamp (by decide))).trans e1) ?_
  refine V.aload_n C dL_law_454 rfl ?_
  refine V.iload C dL_law_455 rfl ?_
  refine V.iconst C (v := nI 2) dL_law_457 (by decide) ?_
  refine V.iadd C dL_law_458 ?_
  refine V.topi (y := nI 2) (by decide +kernel) ?_
  refine V.sld C CXs (vp_in_nI (by decide) (by decide)) dL_law_459 ?_
  refine V.topi (y := nI b9) ((congrArg xs (nI_clamp (by decide))).trans e2) ?_
  refine V.swapw ?_
  refine V.zVfx C ZE (X := _) (cz_X10_person_ok ha hb) rfl gLZ_person (n := 2) ⟨rfl, by decide, by decide, by decide +kernel⟩ rfl (q0 := 0) rfl rfl rfl ⟨Nat.le_of_ble_eq_true rfl, Nat.le_of_ble_eq_true rfl⟩ ⟨Nat.le_of_ble_eq_true rfl, Nat.le_of_ble_eq_true rfl⟩ (Nat.le_of_ble_eq_true rfl) rfl dL_law_460 (fun fs => ?_)
  refine V.istore C dL_law_463 (by decide) rfl ?_
  dsimp only [List.set]
  refine V.aload_n C dL_law_465 rfl ?_
  refine V.zVin C ZE (cz_X10_thrown (x := nI 0) rfl) gLZ_thrown (n := 0) ⟨rfl, by decide, by decide, by decide +kernel⟩ rfl (q0 := 0) rfl rfl rfl ⟨Nat.le_of_ble_eq_true rfl, Nat.le_of_ble_eq_true rfl⟩ ⟨Nat.le_of_ble_eq_true rfl, Nat.le_of_ble_eq_true rfl⟩ (Nat.le_of_ble_eq_true rfl) rfl dL_law_466 ?_
  refine V.iload C dL_law_469 rfl ?_
  refine V.icmp_eq C (tgt := 476) dL_law_471 (by decide) (fun c471 => ?_) (fun c471 => ?_)
  rotate_left
  · exfalso; exact absurd c471 (by decide +kernel)
  refine V.iload C dL_law_476 rfl ?_
  refine V.if_ne C (tgt := 493) dL_law_478 (by decide) (fun c478 => ?_) (fun c478 => ?_)
  · exfalso; exact absurd c478 (by decide +kernel)
  refine V.aload_n C dL_law_481 rfl ?_
  refine V.iconst C (v := nI 0) dL_law_482 (by decide) ?_
  refine V.lald C (q0 := 28) (t0 := 1) rfl rfl rfl (by decide) (by decide) dL_law_483 ?_
  refine V.topl (y := 0) (pk_uLs.trans (by decide +kernel)) ?_
  refine V.iload C dL_law_484 rfl ?_
  refine V.i2l C dL_law_486 ?_
  refine V.topl (y := 0) (by decide +kernel) ?_
  refine V.lcmp C dL_law_487 ?_
  refine V.if_eq C (tgt := 493) dL_law_488 (by decide) (fun c488 => ?_) (fun c488 => ?_)
  rotate_left
  · exfalso; exact absurd c488 (by decide +kernel)
  refine V.goto C (tgt := 1755) dL_law_493 (by decide) ?_
  exact law_tail C CXs kk (Nat.le_of_ble_eq_true rfl) (Nat.le_of_ble_eq_true rfl) (lsub_s rfl (lsub_n (lsub_n (lsub_n (lsub_s rfl (lsub_n (lsub_n (lsub_n (lsub_n lsub_e)))))))))
set_option maxRecDepth 100000 in
set_option maxHeartbeats 4000000 in
theorem law_5_ok {κ : VK} {l : Launch} {D : va_G} {nm : String} {cI cL cII cO : ClassId} {e0 o b : Nat} {h g : Nat → Nat} {xs : Nat → Int32} (hfl : l.stackTraces = false) (C : Cx κ l D code RL wsL_law 9 ret (TY cI cL cII cO) room_1 nm) (CXs : CxX κ b 5 xs) (ZE : EZ κ e0) (ZX9 : XZ κ TL) {a b9 : Nat} (ha : a < 3) (hb : b9 < 2) (e1 : xs 1 = nI a) (e2 : xs 2 = nI b9) {t : Nat} (ht : t ≤ 9) (e3 : xs 3 = nI t) (kk : ∀ (w : va_W) (L : List (Option Value)), V κ 600000 7000000 w 1762 L [.int (nI 1)]) : V κ 100 2000 ((SW cI h jInit ++ [(o, .inl (cL, 1, .inr (.inl (fun _ => (0 : Int64)))))]) ++ (MF cI cII e0 g ((nI 0)))) 496 [some (.ref b), some (.ref (h 0)), some (.ref (g 0)), some (.ref o), some (.int (nI 0)), none, none, none, none] [] := by
  refine V.aload_n C dL_law_496 rfl ?_
  refine V.aload_n C dL_law_497 rfl ?_
  refine V.iload C dL_law_498 rfl ?_
  refine V.iconst C (v := nI 1) dL_law_500 (by decide) ?_
  refine V.iadd C dL_law_501 ?_
  refine V.topi (y := nI 1) (by decide +kernel) ?_
  refine V.sld C CXs (vp_in_nI (by decide) (by decide)) dL_law_502 ?_
  refine V.topi (y := nI a) ((congrArg xs (nI_clamp (by decide))).trans e1) ?_
  refine V.aload_n C dL_law_503 rfl ?_
  refine V.iload C dL_law_504 rfl ?_
  refine V.iconst C (v := nI 2) dL_law_506 (by decide) ?_
  refine V.iadd C dL_law_507 ?_
  refine V.topi (y := nI 2) (by decide +kernel) ?_
  refine V.sld C CXs (vp_in_nI (by decide) (by decide)) dL_law_508 ?_
  refine V.topi (y := nI b9) ((congrArg xs (nI_clamp (by decide))).trans e2) ?_
  refine V.aload_n C dL_law_509 rfl ?_
  refine V.iload C dL_law_510 rfl ?_
  refine V.iconst C (v := nI 3) dL_law_512 (by decide) ?_
  refine V.iadd C dL_law_513 ?_
  refine V.topi (y := nI 3) (by decide +kernel) ?_
  refine V.sld C CXs (vp_in_nI (by decide) (by decide)) dL_law_514 ?_
  refine V.topi (y := nI t) ((congrArg xs (nI_clamp (by decide))).trans e3) ?_
  refine V.aload_n C dL_law_515 rfl ?_
  refine V.hS C ZX9 (X := (MF cI cII e0 g ((nI 0)))) (ct_L_target_ok hfl rfl rfl ha hb ht) rfl gL_law_L_target (n := 5) ⟨by decide, by decide, by decide +kernel⟩ rfl rfl ⟨Nat.le_of_ble_eq_true rfl, Nat.le_of_ble_eq_true rfl⟩ ⟨Nat.le_of_ble_eq_true rfl, Nat.le_of_ble_eq_true rfl⟩ (Nat.le_of_ble_eq_true rfl) rfl dL_law_516 ?_
  refine V.topi (y := nI 0) rfl ?_
  refine V.istore C dL_law_519 (by decide) rfl ?_
  dsimp only [List.set]
  refine V.aload_n C dL_law_521 rfl ?_
  refine V.aload_n C dL_law_522 rfl ?_
  refine V.iload C dL_law_523 rfl ?_
  refine V.iconst C (v := nI 1) dL_law_525 (by decide) ?_
  refine V.iadd C dL_law_526 ?_
  refine V.topi (y := nI 1) (by decide +kernel) ?_
  refine V.sld C CXs (vp_in_nI (by decide) (by decide)) dL_law_527 ?_
  refine V.topi (y := nI a) ((congrArg xs (nI_clamp (by decide))).trans e1) ?_
  refine V.aload_n C dL_law_528 rfl ?_
  refine V.iload C dL_law_529 rfl ?_
  refine V.iconst C (v := nI 2) dL_law_531 (by decide) ?_
  refine V.iadd C dL_law_532 ?_
  refine V.topi (y := nI 2) (by decide +kernel) ?_
  refine V.sld C CXs (vp_in_nI (by decide) (by decide)) dL_law_533 ?_
  refine V.topi (y := nI b9) ((congrArg xs (nI_clamp (by decide))).trans e2) ?_
  refine V.aload_n C dL_law_534 rfl ?_
  refine V.iload C dL_law_535 rfl ?_
  refine V.iconst C (v := nI 3) dL_law_537 (by decide) ?_
  refine V.iadd C dL_law_538 ?_
  refine V.topi (y := nI 3) (by decide +kernel) ?_
  refine V.sld C CXs (vp_in_nI (by decide) (by decide)) dL_law_539 ?_
  refine V.topi (y := nI t) ((congrArg xs (nI_clamp (by decide))).trans e3) ?_
  refine V.swapw ?_
  refine V.zVfx C ZE (X := _) (cz_X10_target_ok ha hb ht) rfl gLZ_target (n := 3) ⟨rfl, by decide, by decide, by decide +kernel⟩ rfl (q0 := 0) rfl rfl rfl ⟨Nat.le_of_ble_eq_true rfl, Nat.le_of_ble_eq_true rfl⟩ ⟨Nat.le_of_ble_eq_true rfl, Nat.le_of_ble_eq_true rfl⟩ (Nat.le_of_ble_eq_true rfl) rfl dL_law_540 (fun fs => ?_)
  refine V.istore C dL_law_543 (by decide) rfl ?_
  dsimp only [List.set]
  refine V.aload_n C dL_law_545 rfl ?_
  refine V.zVin C ZE (cz_X10_thrown (x := nI 0) rfl) gLZ_thrown (n := 0) ⟨rfl, by decide, by decide, by decide +kernel⟩ rfl (q0 := 0) rfl rfl rfl ⟨Nat.le_of_ble_eq_true rfl, Nat.le_of_ble_eq_true rfl⟩ ⟨Nat.le_of_ble_eq_true rfl, Nat.le_of_ble_eq_true rfl⟩ (Nat.le_of_ble_eq_true rfl) rfl dL_law_546 ?_
  refine V.iload C dL_law_549 rfl ?_
  refine V.icmp_eq C (tgt := 556) dL_law_551 (by decide) (fun c551 => ?_) (fun c551 => ?_)
  rotate_left
  · exfalso; exact absurd c551 (by decide +kernel)
  refine V.iload C dL_law_556 rfl ?_
  refine V.if_ne C (tgt := 573) dL_law_558 (by decide) (fun c558 => ?_) (fun c558 => ?_)
  · exfalso; exact absurd c558 (by decide +kernel)
  refine V.aload_n C dL_law_561 rfl ?_
  refine V.iconst C (v := nI 0) dL_law_562 (by decide) ?_
  refine V.lald C (q0 := 28) (t0 := 1) rfl rfl rfl (by decide) (by decide) dL_law_563 ?_
  refine V.topl (y := 0) (pk_uLs.trans (by decide +kernel)) ?_
  refine V.iload C dL_law_564 rfl ?_
  refine V.i2l C dL_law_566 ?_
  refine V.topl (y := 0) (by decide +kernel) ?_
  refine V.lcmp C dL_law_567 ?_
  refine V.if_eq C (tgt := 573) dL_law_568 (by decide) (fun c568 => ?_) (fun c568 => ?_)
  rotate_left
  · exfalso; exact absurd c568 (by decide +kernel)
  refine V.goto C (tgt := 1755) dL_law_573 (by decide) ?_
  exact law_tail C CXs kk (Nat.le_of_ble_eq_true rfl) (Nat.le_of_ble_eq_true rfl) (lsub_s rfl (lsub_n (lsub_n (lsub_n (lsub_s rfl (lsub_n (lsub_n (lsub_n (lsub_n lsub_e)))))))))
set_option maxRecDepth 100000 in
set_option maxHeartbeats 4000000 in
theorem law_5_x2 {κ : VK} {l : Launch} {D : va_G} {nm : String} {cI cL cII cO : ClassId} {e0 o b : Nat} {h g : Nat → Nat} {xs : Nat → Int32} (hfl : l.stackTraces = false) (C : Cx κ l D code RL wsL_law 9 ret (TY cI cL cII cO) room_1 nm) (CXs : CxX κ b 5 xs) (ZE : EZ κ e0) (ZX9 : XZ κ TL) {a b9 : Nat} (ha : a < 3) (hb : b9 < 2) (e1 : xs 1 = nI a) (e2 : xs 2 = nI b9) (hx : xs 3 < nI 0 ∨ nI 9 < xs 3) (kk : ∀ (w : va_W) (L : List (Option Value)), V κ 600000 7000000 w 1762 L [.int (nI 1)]) : V κ 100 2000 ((SW cI h jInit ++ [(o, .inl (cL, 1, .inr (.inl (fun _ => (0 : Int64)))))]) ++ (MF cI cII e0 g ((nI 0)))) 496 [some (.ref b), some (.ref (h 0)), some (.ref (g 0)), some (.ref o), some (.int (nI 0)), none, none, none, none] [] := by
  refine V.aload_n C dL_law_496 rfl ?_
  refine V.aload_n C dL_law_497 rfl ?_
  refine V.iload C dL_law_498 rfl ?_
  refine V.iconst C (v := nI 1) dL_law_500 (by decide) ?_
  refine V.iadd C dL_law_501 ?_
  refine V.topi (y := nI 1) (by decide +kernel) ?_
  refine V.sld C CXs (vp_in_nI (by decide) (by decide)) dL_law_502 ?_
  refine V.topi (y := nI a) ((congrArg xs (nI_clamp (by decide))).trans e1) ?_
  refine V.aload_n C dL_law_503 rfl ?_
  refine V.iload C dL_law_504 rfl ?_
  refine V.iconst C (v := nI 2) dL_law_506 (by decide) ?_
  refine V.iadd C dL_law_507 ?_
  refine V.topi (y := nI 2) (by decide +kernel) ?_
  refine V.sld C CXs (vp_in_nI (by decide) (by decide)) dL_law_508 ?_
  refine V.topi (y := nI b9) ((congrArg xs (nI_clamp (by decide))).trans e2) ?_
  refine V.aload_n C dL_law_509 rfl ?_
  refine V.iload C dL_law_510 rfl ?_
  refine V.iconst C (v := nI 3) dL_law_512 (by decide) ?_
  refine V.iadd C dL_law_513 ?_
  refine V.topi (y := nI 3) (by decide +kernel) ?_
  refine V.sld C CXs (vp_in_nI (by decide) (by decide)) dL_law_514 ?_
  refine V.topi (y := xs 3) ((congrArg xs (nI_clamp (by decide)))) ?_
  refine V.aload_n C dL_law_515 rfl ?_
  refine V.hS C ZX9 (X := (MF cI cII e0 g ((nI 0)))) (ct_L_target_x2 hfl rfl rfl ha hb hx) rfl gL_law_L_target (n := 5) ⟨by decide, by decide, by decide +kernel⟩ rfl rfl ⟨Nat.le_of_ble_eq_true rfl, Nat.le_of_ble_eq_true rfl⟩ ⟨Nat.le_of_ble_eq_true rfl, Nat.le_of_ble_eq_true rfl⟩ (Nat.le_of_ble_eq_true rfl) rfl dL_law_516 ?_
  refine V.topi (y := nI 2) rfl ?_
  refine V.istore C dL_law_519 (by decide) rfl ?_
  dsimp only [List.set]
  refine V.aload_n C dL_law_521 rfl ?_
  refine V.aload_n C dL_law_522 rfl ?_
  refine V.iload C dL_law_523 rfl ?_
  refine V.iconst C (v := nI 1) dL_law_525 (by decide) ?_
  refine V.iadd C dL_law_526 ?_
  refine V.topi (y := nI 1) (by decide +kernel) ?_
  refine V.sld C CXs (vp_in_nI (by decide) (by decide)) dL_law_527 ?_
  refine V.topi (y := nI a) ((congrArg xs (nI_clamp (by decide))).trans e1) ?_
  refine V.aload_n C dL_law_528 rfl ?_
  refine V.iload C dL_law_529 rfl ?_
  refine V.iconst C (v := nI 2) dL_law_531 (by decide) ?_
  refine V.iadd C dL_law_532 ?_
  refine V.topi (y := nI 2) (by decide +kernel) ?_
  refine V.sld C CXs (vp_in_nI (by decide) (by decide)) dL_law_533 ?_
  refine V.topi (y := nI b9) ((congrArg xs (nI_clamp (by decide))).trans e2) ?_
  refine V.aload_n C dL_law_534 rfl ?_
  refine V.iload C dL_law_535 rfl ?_
  refine V.iconst C (v := nI 3) dL_law_537 (by decide) ?_
  refine V.iadd C dL_law_538 ?_
  refine V.topi (y := nI 3) (by decide +kernel) ?_
  refine V.sld C CXs (vp_in_nI (by decide) (by decide)) dL_law_539 ?_
  refine V.topi (y := xs 3) ((congrArg xs (nI_clamp (by decide)))) ?_
  refine V.swapw ?_
  refine V.zVfx C ZE (X := _) (cz_X10_target_x2 ha hb hx) rfl gLZ_target (n := 3) ⟨rfl, by decide, by decide, by decide +kernel⟩ rfl (q0 := 0) rfl rfl rfl ⟨Nat.le_of_ble_eq_true rfl, Nat.le_of_ble_eq_true rfl⟩ ⟨Nat.le_of_ble_eq_true rfl, Nat.le_of_ble_eq_true rfl⟩ (Nat.le_of_ble_eq_true rfl) rfl dL_law_540 (fun fs => ?_)
  refine V.istore C dL_law_543 (by decide) rfl ?_
  dsimp only [List.set]
  refine V.aload_n C dL_law_545 rfl ?_
  refine V.zVin C ZE (cz_X10_thrown (x := nI 2) rfl) gLZ_thrown (n := 0) ⟨rfl, by decide, by decide, by decide +kernel⟩ rfl (q0 := 0) rfl rfl rfl ⟨Nat.le_of_ble_eq_true rfl, Nat.le_of_ble_eq_true rfl⟩ ⟨Nat.le_of_ble_eq_true rfl, Nat.le_of_ble_eq_true rfl⟩ (Nat.le_of_ble_eq_true rfl) rfl dL_law_546 ?_
  refine V.iload C dL_law_549 rfl ?_
  refine V.icmp_eq C (tgt := 556) dL_law_551 (by decide) (fun c551 => ?_) (fun c551 => ?_)
  rotate_left
  · exfalso; exact absurd c551 (by decide +kernel)
  refine V.iload C dL_law_556 rfl ?_
  refine V.if_ne C (tgt := 573) dL_law_558 (by decide) (fun c558 => ?_) (fun c558 => ?_)
  rotate_left
  · exfalso; exact absurd c558 (by decide +kernel)
  refine V.goto C (tgt := 1755) dL_law_573 (by decide) ?_
  exact law_tail C CXs kk (Nat.le_of_ble_eq_true rfl) (Nat.le_of_ble_eq_true rfl) (lsub_s rfl (lsub_n (lsub_n (lsub_n (lsub_s rfl (lsub_n (lsub_n (lsub_n (lsub_n lsub_e)))))))))
set_option maxRecDepth 100000 in
set_option maxHeartbeats 4000000 in
theorem law_7_ok {κ : VK} {l : Launch} {D : va_G} {nm : String} {cI cL cII cO : ClassId} {e0 o b : Nat} {h g : Nat → Nat} {xs : Nat → Int32} (hfl : l.stackTraces = false) (C : Cx κ l D code RL wsL_law 9 ret (TY cI cL cII cO) room_1 nm) (CXs : CxX κ b 5 xs) (ZE : EZ κ e0) (ZX9 : XZ κ TL) {a b9 : Nat} (ha : a < 3) (hb : b9 < 2) (e1 : xs 1 = nI a) (e2 : xs 2 = nI b9) {t : Nat} (hk : t < 5) (e3 : xs 3 = nI t) (kk : ∀ (w : va_W) (L : List (Option Value)), V κ 600000 7000000 w 1762 L [.int (nI 1)]) : V κ 100 2000 ((SW cI h jInit ++ [(o, .inl (cL, 1, .inr (.inl (fun _ => (0 : Int64)))))]) ++ (MF cI cII e0 g ((nI 0)))) 632 [some (.ref b), some (.ref (h 0)), some (.ref (g 0)), some (.ref o), some (.int (nI 0)), none, none, none, none] [] := by
  refine V.aload_n C dL_law_632 rfl ?_
  refine V.aload_n C dL_law_633 rfl ?_
  refine V.iload C dL_law_634 rfl ?_
  refine V.iconst C (v := nI 1) dL_law_636 (by decide) ?_
  refine V.iadd C dL_law_637 ?_
  refine V.topi (y := nI 1) (by decide +kernel) ?_
  refine V.sld C CXs (vp_in_nI (by decide) (by decide)) dL_law_638 ?_
  refine V.topi (y := nI a) ((congrArg xs (nI_clamp (by decide))).trans e1) ?_
  refine V.aload_n C dL_law_639 rfl ?_
  refine V.iload C dL_law_640 rfl ?_
  refine V.iconst C (v := nI 2) dL_law_642 (by decide) ?_
  refine V.iadd C dL_law_643 ?_
  refine V.topi (y := nI 2) (by decide +kernel) ?_
  refine V.sld C CXs (vp_in_nI (by decide) (by decide)) dL_law_644 ?_
  refine V.topi (y := nI b9) ((congrArg xs (nI_clamp (by decide))).trans e2) ?_
  refine V.aload_n C dL_law_645 rfl ?_
  refine V.iload C dL_law_646 rfl ?_
  refine V.iconst C (v := nI 3) dL_law_648 (by decide) ?_
  refine V.iadd C dL_law_649 ?_
  refine V.topi (y := nI 3) (by decide +kernel) ?_
  refine V.sld C CXs (vp_in_nI (by decide) (by decide)) dL_law_650 ?_
  refine V.topi (y := nI t) ((congrArg xs (nI_clamp (by decide))).trans e3) ?_
  refine V.aload_n C dL_law_651 rfl ?_
  refine V.hS C ZX9 (X := (MF cI cII e0 g ((nI 0)))) (ct_L_ofCell_ok hfl rfl rfl ha hb hk) rfl gL_law_L_ofCell (n := 5) ⟨by decide, by decide, by decide +kernel⟩ rfl rfl ⟨Nat.le_of_ble_eq_true rfl, Nat.le_of_ble_eq_true rfl⟩ ⟨Nat.le_of_ble_eq_true rfl, Nat.le_of_ble_eq_true rfl⟩ (Nat.le_of_ble_eq_true rfl) rfl dL_law_652 ?_
  refine V.topi (y := nI 0) rfl ?_
  refine V.istore C dL_law_655 (by decide) rfl ?_
  dsimp only [List.set]
  refine V.aload_n C dL_law_657 rfl ?_
  refine V.aload_n C dL_law_658 rfl ?_
  refine V.iload C dL_law_659 rfl ?_
  refine V.iconst C (v := nI 1) dL_law_661 (by decide) ?_
  refine V.iadd C dL_law_662 ?_
  refine V.topi (y := nI 1) (by decide +kernel) ?_
  refine V.sld C CXs (vp_in_nI (by decide) (by decide)) dL_law_663 ?_
  refine V.topi (y := nI a) ((congrArg xs (nI_clamp (by decide))).trans e1) ?_
  refine V.aload_n C dL_law_664 rfl ?_
  refine V.iload C dL_law_665 rfl ?_
  refine V.iconst C (v := nI 2) dL_law_667 (by decide) ?_
  refine V.iadd C dL_law_668 ?_
  refine V.topi (y := nI 2) (by decide +kernel) ?_
  refine V.sld C CXs (vp_in_nI (by decide) (by decide)) dL_law_669 ?_
  refine V.topi (y := nI b9) ((congrArg xs (nI_clamp (by decide))).trans e2) ?_
  refine V.aload_n C dL_law_670 rfl ?_
  refine V.iload C dL_law_671 rfl ?_
  refine V.iconst C (v := nI 3) dL_law_673 (by decide) ?_
  refine V.iadd C dL_law_674 ?_
  refine V.topi (y := nI 3) (by decide +kernel) ?_
  refine V.sld C CXs (vp_in_nI (by decide) (by decide)) dL_law_675 ?_
  refine V.topi (y := nI t) ((congrArg xs (nI_clamp (by decide))).trans e3) ?_
  refine V.swapw ?_
  refine V.zVfx C ZE (X := _) (cz_X10_ofCell_ok ha hb hk) rfl gLZ_ofCell (n := 3) ⟨rfl, by decide, by decide, by decide +kernel⟩ rfl (q0 := 0) rfl rfl rfl ⟨Nat.le_of_ble_eq_true rfl, Nat.le_of_ble_eq_true rfl⟩ ⟨Nat.le_of_ble_eq_true rfl, Nat.le_of_ble_eq_true rfl⟩ (Nat.le_of_ble_eq_true rfl) rfl dL_law_676 (fun fs => ?_)
  refine V.istore C dL_law_679 (by decide) rfl ?_
  dsimp only [List.set]
  refine V.aload_n C dL_law_681 rfl ?_
  refine V.zVin C ZE (cz_X10_thrown (x := nI 0) rfl) gLZ_thrown (n := 0) ⟨rfl, by decide, by decide, by decide +kernel⟩ rfl (q0 := 0) rfl rfl rfl ⟨Nat.le_of_ble_eq_true rfl, Nat.le_of_ble_eq_true rfl⟩ ⟨Nat.le_of_ble_eq_true rfl, Nat.le_of_ble_eq_true rfl⟩ (Nat.le_of_ble_eq_true rfl) rfl dL_law_682 ?_
  refine V.iload C dL_law_685 rfl ?_
  refine V.icmp_eq C (tgt := 692) dL_law_687 (by decide) (fun c687 => ?_) (fun c687 => ?_)
  rotate_left
  · exfalso; exact absurd c687 (by decide +kernel)
  refine V.iload C dL_law_692 rfl ?_
  refine V.if_ne C (tgt := 709) dL_law_694 (by decide) (fun c694 => ?_) (fun c694 => ?_)
  · exfalso; exact absurd c694 (by decide +kernel)
  refine V.aload_n C dL_law_697 rfl ?_
  refine V.iconst C (v := nI 0) dL_law_698 (by decide) ?_
  refine V.lald C (q0 := 28) (t0 := 1) rfl rfl rfl (by decide) (by decide) dL_law_699 ?_
  refine V.topl (y := 0) (pk_uLs.trans (by decide +kernel)) ?_
  refine V.iload C dL_law_700 rfl ?_
  refine V.i2l C dL_law_702 ?_
  refine V.topl (y := 0) (by decide +kernel) ?_
  refine V.lcmp C dL_law_703 ?_
  refine V.if_eq C (tgt := 709) dL_law_704 (by decide) (fun c704 => ?_) (fun c704 => ?_)
  rotate_left
  · exfalso; exact absurd c704 (by decide +kernel)
  refine V.goto C (tgt := 1755) dL_law_709 (by decide) ?_
  exact law_tail C CXs kk (Nat.le_of_ble_eq_true rfl) (Nat.le_of_ble_eq_true rfl) (lsub_s rfl (lsub_n (lsub_n (lsub_n (lsub_s rfl (lsub_n (lsub_n (lsub_n (lsub_n lsub_e)))))))))
set_option maxRecDepth 100000 in
set_option maxHeartbeats 4000000 in
theorem law_7_x2 {κ : VK} {l : Launch} {D : va_G} {nm : String} {cI cL cII cO : ClassId} {e0 o b : Nat} {h g : Nat → Nat} {xs : Nat → Int32} (hfl : l.stackTraces = false) (C : Cx κ l D code RL wsL_law 9 ret (TY cI cL cII cO) room_1 nm) (CXs : CxX κ b 5 xs) (ZE : EZ κ e0) (ZX9 : XZ κ TL) {a b9 : Nat} (ha : a < 3) (hb : b9 < 2) (e1 : xs 1 = nI a) (e2 : xs 2 = nI b9) (hx : xs 3 < nI 0 ∨ nI 4 < xs 3) (kk : ∀ (w : va_W) (L : List (Option Value)), V κ 600000 7000000 w 1762 L [.int (nI 1)]) : V κ 100 2000 ((SW cI h jInit ++ [(o, .inl (cL, 1, .inr (.inl (fun _ => (0 : Int64)))))]) ++ (MF cI cII e0 g ((nI 0)))) 632 [some (.ref b), some (.ref (h 0)), some (.ref (g 0)), some (.ref o), some (.int (nI 0)), none, none, none, none] [] := by
  refine V.aload_n C dL_law_632 rfl ?_
  refine V.aload_n C dL_law_633 rfl ?_
  refine V.iload C dL_law_634 rfl ?_
  refine V.iconst C (v := nI 1) dL_law_636 (by decide) ?_
  refine V.iadd C dL_law_637 ?_
  refine V.topi (y := nI 1) (by decide +kernel) ?_
  refine V.sld C CXs (vp_in_nI (by decide) (by decide)) dL_law_638 ?_
  refine V.topi (y := nI a) ((congrArg xs (nI_clamp (by decide))).trans e1) ?_
  refine V.aload_n C dL_law_639 rfl ?_
  refine V.iload C dL_law_640 rfl ?_
  refine V.iconst C (v := nI 2) dL_law_642 (by decide) ?_
  refine V.iadd C dL_law_643 ?_
  refine V.topi (y := nI 2) (by decide +kernel) ?_
  refine V.sld C CXs (vp_in_nI (by decide) (by decide)) dL_law_644 ?_
  refine V.topi (y := nI b9) ((congrArg xs (nI_clamp (by decide))).trans e2) ?_
  refine V.aload_n C dL_law_645 rfl ?_
  refine V.iload C dL_law_646 rfl ?_
  refine V.iconst C (v := nI 3) dL_law_648 (by decide) ?_
  refine V.iadd C dL_law_649 ?_
  refine V.topi (y := nI 3) (by decide +kernel) ?_
  refine V.sld C CXs (vp_in_nI (by decide) (by decide)) dL_law_650 ?_
  refine V.topi (y := xs 3) ((congrArg xs (nI_clamp (by decide)))) ?_
  refine V.aload_n C dL_law_651 rfl ?_
  refine V.hS C ZX9 (X := (MF cI cII e0 g ((nI 0)))) (ct_L_ofCell_x2 hfl rfl rfl ha hb hx) rfl gL_law_L_ofCell (n := 5) ⟨by decide, by decide, by decide +kernel⟩ rfl rfl ⟨Nat.le_of_ble_eq_true rfl, Nat.le_of_ble_eq_true rfl⟩ ⟨Nat.le_of_ble_eq_true rfl, Nat.le_of_ble_eq_true rfl⟩ (Nat.le_of_ble_eq_true rfl) rfl dL_law_652 ?_
  refine V.topi (y := nI 2) rfl ?_
  refine V.istore C dL_law_655 (by decide) rfl ?_
  dsimp only [List.set]
  refine V.aload_n C dL_law_657 rfl ?_
  refine V.aload_n C dL_law_658 rfl ?_
  refine V.iload C dL_law_659 rfl ?_
  refine V.iconst C (v := nI 1) dL_law_661 (by decide) ?_
  refine V.iadd C dL_law_662 ?_
  refine V.topi (y := nI 1) (by decide +kernel) ?_
  refine V.sld C CXs (vp_in_nI (by decide) (by decide)) dL_law_663 ?_
  refine V.topi (y := nI a) ((congrArg xs (nI_clamp (by decide))).trans e1) ?_
  refine V.aload_n C dL_law_664 rfl ?_
  refine V.iload C dL_law_665 rfl ?_
  refine V.iconst C (v := nI 2) dL_law_667 (by decide) ?_
  refine V.iadd C dL_law_668 ?_
  refine V.topi (y := nI 2) (by decide +kernel) ?_
  refine V.sld C CXs (vp_in_nI (by decide) (by decide)) dL_law_669 ?_
  refine V.topi (y := nI b9) ((congrArg xs (nI_clamp (by decide))).trans e2) ?_
  refine V.aload_n C dL_law_670 rfl ?_
  refine V.iload C dL_law_671 rfl ?_
  refine V.iconst C (v := nI 3) dL_law_673 (by decide) ?_
  refine V.iadd C dL_law_674 ?_
  refine V.topi (y := nI 3) (by decide +kernel) ?_
  refine V.sld C CXs (vp_in_nI (by decide) (by decide)) dL_law_675 ?_
  refine V.topi (y := xs 3) ((congrArg xs (nI_clamp (by decide)))) ?_
  refine V.swapw ?_
  refine V.zVfx C ZE (X := _) (cz_X10_ofCell_x2 ha hb hx) rfl gLZ_ofCell (n := 3) ⟨rfl, by decide, by decide, by decide +kernel⟩ rfl (q0 := 0) rfl rfl rfl ⟨Nat.le_of_ble_eq_true rfl, Nat.le_of_ble_eq_true rfl⟩ ⟨Nat.le_of_ble_eq_true rfl, Nat.le_of_ble_eq_true rfl⟩ (Nat.le_of_ble_eq_true rfl) rfl dL_law_676 (fun fs => ?_)
  refine V.istore C dL_law_679 (by decide) rfl ?_
  dsimp only [List.set]
  refine V.aload_n C dL_law_681 rfl ?_
  refine V.zVin C ZE (cz_X10_thrown (x := nI 2) rfl) gLZ_thrown (n := 0) ⟨rfl, by decide, by decide, by decide +kernel⟩ rfl (q0 := 0) rfl rfl rfl ⟨Nat.le_of_ble_eq_true rfl, Nat.le_of_ble_eq_true rfl⟩ ⟨Nat.le_of_ble_eq_true rfl, Nat.le_of_ble_eq_true rfl⟩ (Nat.le_of_ble_eq_true rfl) rfl dL_law_682 ?_
  refine V.iload C dL_law_685 rfl ?_
  refine V.icmp_eq C (tgt := 692) dL_law_687 (by decide) (fun c687 => ?_) (fun c687 => ?_)
  rotate_left
  · exfalso; exact absurd c687 (by decide +kernel)
  refine V.iload C dL_law_692 rfl ?_
  refine V.if_ne C (tgt := 709) dL_law_694 (by decide) (fun c694 => ?_) (fun c694 => ?_)
  rotate_left
  · exfalso; exact absurd c694 (by decide +kernel)
  refine V.goto C (tgt := 1755) dL_law_709 (by decide) ?_
  exact law_tail C CXs kk (Nat.le_of_ble_eq_true rfl) (Nat.le_of_ble_eq_true rfl) (lsub_s rfl (lsub_n (lsub_n (lsub_n (lsub_s rfl (lsub_n (lsub_n (lsub_n (lsub_n lsub_e)))))))))
set_option maxRecDepth 100000 in
set_option maxHeartbeats 4000000 in
theorem law_6_x {κ : VK} {l : Launch} {D : va_G} {nm : String} {cI cL cII cO : ClassId} {e0 o b : Nat} {h g : Nat → Nat} {xs : Nat → Int32} (hfl : l.stackTraces = false) (C : Cx κ l D code RL wsL_law 9 ret (TY cI cL cII cO) room_1 nm) (CXs : CxX κ b 5 xs) (ZE : EZ κ e0) (ZX9 : XZ κ TL) (hx : xs 1 < nI 0 ∨ nI 3 < xs 1) (kk : ∀ (w : va_W) (L : List (Option Value)), V κ 600000 7000000 w 1762 L [.int (nI 1)]) : V κ 100 2000 ((SW cI h jInit ++ [(o, .inl (cL, 1, .inr (.inl (fun _ => (0 : Int64)))))]) ++ (MF cI cII e0 g ((nI 0)))) 576 [some (.ref b), some (.ref (h 0)), some (.ref (g 0)), some (.ref o), some (.int (nI 0)), none, none, none, none] [] := by
  refine V.aload_n C dL_law_576 rfl ?_
  refine V.aload_n C dL_law_577 rfl ?_
  refine V.iload C dL_law_578 rfl ?_
  refine V.iconst C (v := nI 1) dL_law_580 (by decide) ?_
  refine V.iadd C dL_law_581 ?_
  refine V.topi (y := nI 1) (by decide +kernel) ?_
  refine V.sld C CXs (vp_in_nI (by decide) (by decide)) dL_law_582 ?_
  refine V.topi (y := xs 1) ((congrArg xs (nI_clamp (by decide)))) ?_
  refine V.aload_n C dL_law_583 rfl ?_
  refine V.hS C ZX9 (X := (MF cI cII e0 g ((nI 0)))) (ct_L_soft_x hfl rfl rfl hx) rfl gL_law_L_soft (n := 3) ⟨by decide, by decide, by decide +kernel⟩ rfl rfl ⟨Nat.le_of_ble_eq_true rfl, Nat.le_of_ble_eq_true rfl⟩ ⟨Nat.le_of_ble_eq_true rfl, Nat.le_of_ble_eq_true rfl⟩ (Nat.le_of_ble_eq_true rfl) rfl dL_law_584 ?_
  refine V.topi (y := nI 1) rfl ?_
  refine V.istore C dL_law_587 (by decide) rfl ?_
  dsimp only [List.set]
  refine V.aload_n C dL_law_589 rfl ?_
  refine V.aload_n C dL_law_590 rfl ?_
  refine V.iload C dL_law_591 rfl ?_
  refine V.iconst C (v := nI 1) dL_law_593 (by decide) ?_
  refine V.iadd C dL_law_594 ?_
  refine V.topi (y := nI 1) (by decide +kernel) ?_
  refine V.sld C CXs (vp_in_nI (by decide) (by decide)) dL_law_595 ?_
  refine V.topi (y := xs 1) ((congrArg xs (nI_clamp (by decide)))) ?_
  refine V.swapw ?_
  refine V.zVfx C ZE (X := _) (cz_X10_soft_x hx) rfl gLZ_soft (n := 1) ⟨rfl, by decide, by decide, by decide +kernel⟩ rfl (q0 := 0) rfl rfl rfl ⟨Nat.le_of_ble_eq_true rfl, Nat.le_of_ble_eq_true rfl⟩ ⟨Nat.le_of_ble_eq_true rfl, Nat.le_of_ble_eq_true rfl⟩ (Nat.le_of_ble_eq_true rfl) rfl dL_law_596 (fun fs => ?_)
  refine V.istore C dL_law_599 (by decide) rfl ?_
  dsimp only [List.set]
  refine V.aload_n C dL_law_601 rfl ?_
  refine V.zVin C ZE (cz_X10_thrown (x := nI 1) rfl) gLZ_thrown (n := 0) ⟨rfl, by decide, by decide, by decide +kernel⟩ rfl (q0 := 0) rfl rfl rfl ⟨Nat.le_of_ble_eq_true rfl, Nat.le_of_ble_eq_true rfl⟩ ⟨Nat.le_of_ble_eq_true rfl, Nat.le_of_ble_eq_true rfl⟩ (Nat.le_of_ble_eq_true rfl) rfl dL_law_602 ?_
  refine V.iload C dL_law_605 rfl ?_
  refine V.icmp_eq C (tgt := 612) dL_law_607 (by decide) (fun c607 => ?_) (fun c607 => ?_)
  rotate_left
  · exfalso; exact absurd c607 (by decide +kernel)
  refine V.iload C dL_law_612 rfl ?_
  refine V.if_ne C (tgt := 629) dL_law_614 (by decide) (fun c614 => ?_) (fun c614 => ?_)
  rotate_left
  · exfalso; exact absurd c614 (by decide +kernel)
  refine V.goto C (tgt := 1755) dL_law_629 (by decide) ?_
  exact law_tail C CXs kk (Nat.le_of_ble_eq_true rfl) (Nat.le_of_ble_eq_true rfl) (lsub_s rfl (lsub_n (lsub_n (lsub_n (lsub_s rfl (lsub_n (lsub_n (lsub_n (lsub_n lsub_e)))))))))
set_option maxRecDepth 100000 in
set_option maxHeartbeats 4000000 in
theorem law_6_ok {κ : VK} {l : Launch} {D : va_G} {nm : String} {cI cL cII cO : ClassId} {e0 o b : Nat} {h g : Nat → Nat} {xs : Nat → Int32} (hfl : l.stackTraces = false) (C : Cx κ l D code RL wsL_law 9 ret (TY cI cL cII cO) room_1 nm) (CXs : CxX κ b 5 xs) (ZE : EZ κ e0) (ZX9 : XZ κ TL) {a : Nat} (ha : a ≤ 3) (e1 : xs 1 = nI a) (kk : ∀ (w : va_W) (L : List (Option Value)), V κ 600000 7000000 w 1762 L [.int (nI 1)]) : V κ 100 2000 ((SW cI h jInit ++ [(o, .inl (cL, 1, .inr (.inl (fun _ => (0 : Int64)))))]) ++ (MF cI cII e0 g ((nI 0)))) 576 [some (.ref b), some (.ref (h 0)), some (.ref (g 0)), some (.ref o), some (.int (nI 0)), none, none, none, none] [] := by
  refine V.aload_n C dL_law_576 rfl ?_
  refine V.aload_n C dL_law_577 rfl ?_
  refine V.iload C dL_law_578 rfl ?_
  refine V.iconst C (v := nI 1) dL_law_580 (by decide) ?_
  refine V.iadd C dL_law_581 ?_
  refine V.topi (y := nI 1) (by decide +kernel) ?_
  refine V.sld C CXs (vp_in_nI (by decide) (by decide)) dL_law_582 ?_
  refine V.topi (y := nI a) ((congrArg xs (nI_clamp (by decide))).trans e1) ?_
  refine V.aload_n C dL_law_583 rfl ?_
  refine V.hS C ZX9 (X := (MF cI cII e0 g ((nI 0)))) (ct_L_soft_ok hfl rfl rfl ha) rfl gL_law_L_soft (n := 3) ⟨by decide, by decide, by decide +kernel⟩ rfl rfl ⟨Nat.le_of_ble_eq_true rfl, Nat.le_of_ble_eq_true rfl⟩ ⟨Nat.le_of_ble_eq_true rfl, Nat.le_of_ble_eq_true rfl⟩ (Nat.le_of_ble_eq_true rfl) rfl dL_law_584 ?_
  refine V.topi (y := nI 0) rfl ?_
  refine V.istore C dL_law_587 (by decide) rfl ?_
  dsimp only [List.set]
  refine V.aload_n C dL_law_589 rfl ?_
  refine V.aload_n C dL_law_590 rfl ?_
  refine V.iload C dL_law_591 rfl ?_
  refine V.iconst C (v := nI 1) dL_law_593 (by decide) ?_
  refine V.iadd C dL_law_594 ?_
  refine V.topi (y := nI 1) (by decide +kernel) ?_
  refine V.sld C CXs (vp_in_nI (by decide) (by decide)) dL_law_595 ?_
  refine V.topi (y := nI a) ((congrArg xs (nI_clamp (by decide))).trans e1) ?_
  refine V.swapw ?_
  refine V.zVfx C ZE (X := _) (cz_X10_soft_ok ha) rfl gLZ_soft (n := 1) ⟨rfl, by decide, by decide, by decide +kernel⟩ rfl (q0 := 0) rfl rfl rfl ⟨Nat.le_of_ble_eq_true rfl, Nat.le_of_ble_eq_true rfl⟩ ⟨Nat.le_of_ble_eq_true rfl, Nat.le_of_ble_eq_true rfl⟩ (Nat.le_of_ble_eq_true rfl) rfl dL_law_596 (fun fs => ?_)
  refine V.istore C dL_law_599 (by decide) rfl ?_
  dsimp only [List.set]
  refine V.aload_n C dL_law_601 rfl ?_
  refine V.zVin C ZE (cz_X10_thrown (x := nI 0) rfl) gLZ_thrown (n := 0) ⟨rfl, by decide, by decide, by decide +kernel⟩ rfl (q0 := 0) rfl rfl rfl ⟨Nat.le_of_ble_eq_true rfl, Nat.le_of_ble_eq_true rfl⟩ ⟨Nat.le_of_ble_eq_true rfl, Nat.le_of_ble_eq_true rfl⟩ (Nat.le_of_ble_eq_true rfl) rfl dL_law_602 ?_
  refine V.iload C dL_law_605 rfl ?_
  refine V.icmp_eq C (tgt := 612) dL_law_607 (by decide) (fun c607 => ?_) (fun c607 => ?_)
  rotate_left
  · exfalso; exact absurd c607 (by decide +kernel)
  refine V.iload C dL_law_612 rfl ?_
  refine V.if_ne C (tgt := 629) dL_law_614 (by decide) (fun c614 => ?_) (fun c614 => ?_)
  · exfalso; exact absurd c614 (by decide +kernel)
  refine V.aload_n C dL_law_617 rfl ?_
  refine V.iconst C (v := nI 0) dL_law_618 (by decide) ?_
  refine V.lald C (q0 := 28) (t0 := 1) rfl rfl rfl (by decide) (by decide) dL_law_619 ?_
  refine V.topl (y := 0) (pk_uLs.trans (by decide +kernel)) ?_
  refine V.iload C dL_law_620 rfl ?_
  refine V.i2l C dL_law_622 ?_
  refine V.topl (y := 0) (by decide +kernel) ?_
  refine V.lcmp C dL_law_623 ?_
  refine V.if_eq C (tgt := 629) dL_law_624 (by decide) (fun c624 => ?_) (fun c624 => ?_)
  rotate_left
  · exfalso; exact absurd c624 (by decide +kernel)
  refine V.goto C (tgt := 1755) dL_law_629 (by decide) ?_
  exact law_tail C CXs kk (Nat.le_of_ble_eq_true rfl) (Nat.le_of_ble_eq_true rfl) (lsub_s rfl (lsub_n (lsub_n (lsub_n (lsub_s rfl (lsub_n (lsub_n (lsub_n (lsub_n lsub_e)))))))))
set_option maxRecDepth 100000 in
set_option maxHeartbeats 4000000 in
theorem law_8_x {κ : VK} {l : Launch} {D : va_G} {nm : String} {cI cL cII cO : ClassId} {e0 o b : Nat} {h g : Nat → Nat} {xs : Nat → Int32} (hfl : l.stackTraces = false) (C : Cx κ l D code RL wsL_law 9 ret (TY cI cL cII cO) room_1 nm) (CXs : CxX κ b 5 xs) (ZE : EZ κ e0) (ZX9 : XZ κ TL)  (kk : ∀ (w : va_W) (L : List (Option Value)), V κ 600000 7000000 w 1762 L [.int (nI 1)]) : V κ 100 2000 ((SW cI h jInit ++ [(o, .inl (cL, 1, .inr (.inl (fun _ => (0 : Int64)))))]) ++ (MF cI cII e0 g ((nI 0)))) 712 [some (.ref b), some (.ref (h 0)), some (.ref (g 0)), some (.ref o), some (.int (nI 0)), none, none, none, none] [] := by
  refine V.aload_n C dL_law_712 rfl ?_
  refine V.aload_n C dL_law_713 rfl ?_
  refine V.iload C dL_law_714 rfl ?_
  refine V.iconst C (v := nI 1) dL_law_716 (by decide) ?_
  refine V.iadd C dL_law_717 ?_
  refine V.topi (y := nI 1) (by decide +kernel) ?_
  refine V.sld C CXs (vp_in_nI (by decide) (by decide)) dL_law_718 ?_
  refine V.topi (y := xs 1) ((congrArg xs (nI_clamp (by decide)))) ?_
  refine V.aload_n C dL_law_719 rfl ?_
  refine V.iload C dL_law_720 rfl ?_
  refine V.iconst C (v := nI 2) dL_law_722 (by decide) ?_
  refine V.iadd C dL_law_723 ?_
  refine V.topi (y := nI 2) (by decide +kernel) ?_
  refine V.sld C CXs (vp_in_nI (by decide) (by decide)) dL_law_724 ?_
  refine V.topi (y := xs 2) ((congrArg xs (nI_clamp (by decide)))) ?_
  refine V.aload_n C dL_law_725 rfl ?_
  refine V.hS C ZX9 (X := (MF cI cII e0 g ((nI 0)))) (ct_L_ofPerson_x hfl rfl rfl) rfl gL_law_L_ofPerson (n := 4) ⟨by decide, by decide, by decide +kernel⟩ rfl rfl ⟨Nat.le_of_ble_eq_true rfl, Nat.le_of_ble_eq_true rfl⟩ ⟨Nat.le_of_ble_eq_true rfl, Nat.le_of_ble_eq_true rfl⟩ (Nat.le_of_ble_eq_true rfl) rfl dL_law_726 ?_
  refine V.topi (y := nI 1) rfl ?_
  refine V.istore C dL_law_729 (by decide) rfl ?_
  dsimp only [List.set]
  refine V.aload_n C dL_law_731 rfl ?_
  refine V.aload_n C dL_law_732 rfl ?_
  refine V.iload C dL_law_733 rfl ?_
  refine V.iconst C (v := nI 1) dL_law_735 (by decide) ?_
  refine V.iadd C dL_law_736 ?_
  refine V.topi (y := nI 1) (by decide +kernel) ?_
  refine V.sld C CXs (vp_in_nI (by decide) (by decide)) dL_law_737 ?_
  refine V.topi (y := xs 1) ((congrArg xs (nI_clamp (by decide)))) ?_
  refine V.aload_n C dL_law_738 rfl ?_
  refine V.iload C dL_law_739 rfl ?_
  refine V.iconst C (v := nI 2) dL_law_741 (by decide) ?_
  refine V.iadd C dL_law_742 ?_
  refine V.topi (y := nI 2) (by decide +kernel) ?_
  refine V.sld C CXs (vp_in_nI (by decide) (by decide)) dL_law_743 ?_
  refine V.topi (y := xs 2) ((congrArg xs (nI_clamp (by decide)))) ?_
  refine V.swapw ?_
  refine V.zVfx C ZE (X := _) (cz_X10_ofPerson_x) rfl gLZ_ofPerson (n := 2) ⟨rfl, by decide, by decide, by decide +kernel⟩ rfl (q0 := 0) rfl rfl rfl ⟨Nat.le_of_ble_eq_true rfl, Nat.le_of_ble_eq_true rfl⟩ ⟨Nat.le_of_ble_eq_true rfl, Nat.le_of_ble_eq_true rfl⟩ (Nat.le_of_ble_eq_true rfl) rfl dL_law_744 (fun fs => ?_)
  refine V.istore C dL_law_747 (by decide) rfl ?_
  dsimp only [List.set]
  refine V.aload_n C dL_law_749 rfl ?_
  refine V.zVin C ZE (cz_X10_thrown (x := nI 1) rfl) gLZ_thrown (n := 0) ⟨rfl, by decide, by decide, by decide +kernel⟩ rfl (q0 := 0) rfl rfl rfl ⟨Nat.le_of_ble_eq_true rfl, Nat.le_of_ble_eq_true rfl⟩ ⟨Nat.le_of_ble_eq_true rfl, Nat.le_of_ble_eq_true rfl⟩ (Nat.le_of_ble_eq_true rfl) rfl dL_law_750 ?_
  refine V.iload C dL_law_753 rfl ?_
  refine V.icmp_eq C (tgt := 760) dL_law_755 (by decide) (fun c755 => ?_) (fun c755 => ?_)
  rotate_left
  · exfalso; exact absurd c755 (by decide +kernel)
  refine V.iload C dL_law_760 rfl ?_
  refine V.if_ne C (tgt := 777) dL_law_762 (by decide) (fun c762 => ?_) (fun c762 => ?_)
  rotate_left
  · exfalso; exact absurd c762 (by decide +kernel)
  refine V.goto C (tgt := 1755) dL_law_777 (by decide) ?_
  exact law_tail C CXs kk (Nat.le_of_ble_eq_true rfl) (Nat.le_of_ble_eq_true rfl) (lsub_s rfl (lsub_n (lsub_n (lsub_n (lsub_s rfl (lsub_n (lsub_n (lsub_n (lsub_n lsub_e)))))))))
set_option maxRecDepth 100000 in
set_option maxHeartbeats 4000000 in
theorem law_9 {κ : VK} {l : Launch} {D : va_G} {nm : String} {cI cL cII cO : ClassId} {e0 o b : Nat} {h g : Nat → Nat} {xs : Nat → Int32} (hfl : l.stackTraces = false) (C : Cx κ l D code RL wsL_law 9 ret (TY cI cL cII cO) room_1 nm) (CXs : CxX κ b 5 xs) (ZE : EZ κ e0) (ZX9 : XZ κ TL)  (kk : ∀ (w : va_W) (L : List (Option Value)), V κ 600000 7000000 w 1762 L [.int (nI 1)]) : V κ 100 2000 ((SW cI h jInit ++ [(o, .inl (cL, 1, .inr (.inl (fun _ => (0 : Int64)))))]) ++ (MF cI cII e0 g ((nI 0)))) 780 [some (.ref b), some (.ref (h 0)), some (.ref (g 0)), some (.ref o), some (.int (nI 0)), none, none, none, none] [] := by
  refine V.aload_n C dL_law_780 rfl ?_
  refine V.world (w' := SW cI h jInit ++ ([(o, .inl (cL, 1, .inr (.inl (fun _ => (0 : Int64)))))] ++ (MF cI cII e0 g ((nI 0))))) rfl ?_
  refine V.callVXi C (X := _) (ct_X6_next (N := 0) (P := 0) rfl rfl (by decide) rfl (by decide) (fun p hp => absurd hp (Nat.not_lt_zero p))) rfl gL_law_X6_next (n := 0) ⟨rfl, by decide, by decide, by decide +kernel⟩ rfl (q0 := 0) rfl rfl rfl ⟨Nat.le_of_ble_eq_true rfl, Nat.le_of_ble_eq_true rfl⟩ ⟨rfl, rfl, Nat.le_of_ble_eq_true rfl, Nat.le_of_ble_eq_true rfl⟩ (Nat.le_of_ble_eq_true rfl) rfl dL_law_781 ?_
  refine V.topi (y := -1) (rfl) ?_
  refine V.world (w' := (SW cI h jInit ++ [(o, .inl (cL, 1, .inr (.inl (fun _ => (0 : Int64)))))]) ++ (MF cI cII e0 g ((nI 0)))) rfl ?_
  refine V.aload_n C dL_law_784 rfl ?_
  refine V.swapw ?_
  refine V.zVfx C ZE (X := _) (cz_X10_next) rfl gLZ_next (n := 0) ⟨rfl, by decide, by decide, by decide +kernel⟩ rfl (q0 := 0) rfl rfl rfl ⟨Nat.le_of_ble_eq_true rfl, Nat.le_of_ble_eq_true rfl⟩ ⟨Nat.le_of_ble_eq_true rfl, Nat.le_of_ble_eq_true rfl⟩ (Nat.le_of_ble_eq_true rfl) rfl dL_law_785 (fun fs => ?_)
  refine V.icmp_eq C (tgt := 1755) dL_law_788 (by decide) (fun c788 => ?_) (fun c788 => ?_)
  rotate_left
  · exfalso; exact absurd c788 (by decide +kernel)
  exact law_tail C CXs kk (Nat.le_of_ble_eq_true rfl) (Nat.le_of_ble_eq_true rfl) (lsub_s rfl (lsub_n (lsub_n (lsub_n (lsub_s rfl (lsub_n (lsub_n (lsub_n (lsub_n lsub_e)))))))))
set_option maxRecDepth 100000 in
set_option maxHeartbeats 4000000 in
theorem law_10 {κ : VK} {l : Launch} {D : va_G} {nm : String} {cI cL cII cO : ClassId} {e0 o b : Nat} {h g : Nat → Nat} {xs : Nat → Int32} (hfl : l.stackTraces = false) (C : Cx κ l D code RL wsL_law 9 ret (TY cI cL cII cO) room_1 nm) (CXs : CxX κ b 5 xs) (ZE : EZ κ e0) (ZX9 : XZ κ TL)  (kk : ∀ (w : va_W) (L : List (Option Value)), V κ 600000 7000000 w 1762 L [.int (nI 1)]) : V κ 100 2000 ((SW cI h jInit ++ [(o, .inl (cL, 1, .inr (.inl (fun _ => (0 : Int64)))))]) ++ (MF cI cII e0 g ((nI 0)))) 793 [some (.ref b), some (.ref (h 0)), some (.ref (g 0)), some (.ref o), some (.int (nI 0)), none, none, none, none] [] := by
  refine V.aload_n C dL_law_793 rfl ?_
  refine V.world (w' := SW cI h jInit ++ ([(o, .inl (cL, 1, .inr (.inl (fun _ => (0 : Int64)))))] ++ (MF cI cII e0 g ((nI 0))))) rfl ?_
  refine V.callVXi C (X := _) (ct_X6_day (P := 0) rfl rfl (by decide)) rfl gL_law_X6_day (n := 0) ⟨rfl, by decide, by decide, by decide +kernel⟩ rfl (q0 := 0) rfl rfl rfl ⟨Nat.le_of_ble_eq_true rfl, Nat.le_of_ble_eq_true rfl⟩ ⟨rfl, rfl, Nat.le_of_ble_eq_true rfl, Nat.le_of_ble_eq_true rfl⟩ (Nat.le_of_ble_eq_true rfl) rfl dL_law_794 ?_
  refine V.topi (y := nI 1) (by decide +kernel) ?_
  refine V.world (w' := (SW cI h (jDay jInit 0) ++ [(o, .inl (cL, 1, .inr (.inl (fun _ => (0 : Int64)))))]) ++ (MF cI cII e0 g ((nI 0)))) rfl ?_
  refine V.aload_n C dL_law_797 rfl ?_
  refine V.swapw ?_
  refine V.zVfx C ZE (X := _) (cz_X10_day) rfl gLZ_day (n := 0) ⟨rfl, by decide, by decide, by decide +kernel⟩ rfl (q0 := 0) rfl rfl rfl ⟨Nat.le_of_ble_eq_true rfl, Nat.le_of_ble_eq_true rfl⟩ ⟨Nat.le_of_ble_eq_true rfl, Nat.le_of_ble_eq_true rfl⟩ (Nat.le_of_ble_eq_true rfl) rfl dL_law_798 (fun fs => ?_)
  refine V.icmp_eq C (tgt := 1755) dL_law_801 (by decide) (fun c801 => ?_) (fun c801 => ?_)
  rotate_left
  · exfalso; exact absurd c801 (by decide +kernel)
  exact law_tail C CXs kk (Nat.le_of_ble_eq_true rfl) (Nat.le_of_ble_eq_true rfl) (lsub_s rfl (lsub_n (lsub_n (lsub_n (lsub_s rfl (lsub_n (lsub_n (lsub_n (lsub_n lsub_e)))))))))
set_option maxRecDepth 100000 in
set_option maxHeartbeats 4000000 in
theorem law_11_x {κ : VK} {l : Launch} {D : va_G} {nm : String} {cI cL cII cO : ClassId} {e0 o b : Nat} {h g : Nat → Nat} {xs : Nat → Int32} (hfl : l.stackTraces = false) (C : Cx κ l D code RL wsL_law 9 ret (TY cI cL cII cO) room_1 nm) (CXs : CxX κ b 5 xs) (ZE : EZ κ e0) (ZX9 : XZ κ TL)  (kk : ∀ (w : va_W) (L : List (Option Value)), V κ 600000 7000000 w 1762 L [.int (nI 1)]) : V κ 100 2000 ((SW cI h jInit ++ [(o, .inl (cL, 1, .inr (.inl (fun _ => (0 : Int64)))))]) ++ (MF cI cII e0 g ((nI 0)))) 806 [some (.ref b), some (.ref (h 0)), some (.ref (g 0)), some (.ref o), some (.int (nI 0)), none, none, none, none] [] := by
  refine V.aload_n C dL_law_806 rfl ?_
  refine V.aload_n C dL_law_807 rfl ?_
  refine V.iload C dL_law_808 rfl ?_
  refine V.iconst C (v := nI 1) dL_law_810 (by decide) ?_
  refine V.iadd C dL_law_811 ?_
  refine V.topi (y := nI 1) (by decide +kernel) ?_
  refine V.sld C CXs (vp_in_nI (by decide) (by decide)) dL_law_812 ?_
  refine V.topi (y := xs 1) ((congrArg xs (nI_clamp (by decide)))) ?_
  refine V.aload_n C dL_law_813 rfl ?_
  refine V.hS C ZX9 (X := (MF cI cII e0 g ((nI 0)))) (ct_L_begin_x hfl rfl rfl) rfl gL_law_L_begin (n := 3) ⟨by decide, by decide, by decide +kernel⟩ rfl rfl ⟨Nat.le_of_ble_eq_true rfl, Nat.le_of_ble_eq_true rfl⟩ ⟨Nat.le_of_ble_eq_true rfl, Nat.le_of_ble_eq_true rfl⟩ (Nat.le_of_ble_eq_true rfl) rfl dL_law_814 ?_
  refine V.topi (y := nI 1) rfl ?_
  refine V.istore C dL_law_817 (by decide) rfl ?_
  dsimp only [List.set]
  refine V.aload_n C dL_law_819 rfl ?_
  refine V.aload_n C dL_law_820 rfl ?_
  refine V.iload C dL_law_821 rfl ?_
  refine V.iconst C (v := nI 1) dL_law_823 (by decide) ?_
  refine V.iadd C dL_law_824 ?_
  refine V.topi (y := nI 1) (by decide +kernel) ?_
  refine V.sld C CXs (vp_in_nI (by decide) (by decide)) dL_law_825 ?_
  refine V.topi (y := xs 1) ((congrArg xs (nI_clamp (by decide)))) ?_
  refine V.swapw ?_
  refine V.zVfx C ZE (X := _) (cz_X10_begin_x) rfl gLZ_begin (n := 1) ⟨rfl, by decide, by decide, by decide +kernel⟩ rfl (q0 := 0) rfl rfl rfl ⟨Nat.le_of_ble_eq_true rfl, Nat.le_of_ble_eq_true rfl⟩ ⟨Nat.le_of_ble_eq_true rfl, Nat.le_of_ble_eq_true rfl⟩ (Nat.le_of_ble_eq_true rfl) rfl dL_law_826 (fun fs => ?_)
  refine V.istore C dL_law_829 (by decide) rfl ?_
  dsimp only [List.set]
  refine V.aload_n C dL_law_831 rfl ?_
  refine V.zVin C ZE (cz_X10_thrown (x := nI 1) rfl) gLZ_thrown (n := 0) ⟨rfl, by decide, by decide, by decide +kernel⟩ rfl (q0 := 0) rfl rfl rfl ⟨Nat.le_of_ble_eq_true rfl, Nat.le_of_ble_eq_true rfl⟩ ⟨Nat.le_of_ble_eq_true rfl, Nat.le_of_ble_eq_true rfl⟩ (Nat.le_of_ble_eq_true rfl) rfl dL_law_832 ?_
  refine V.iload C dL_law_835 rfl ?_
  refine V.icmp_eq C (tgt := 842) dL_law_837 (by decide) (fun c837 => ?_) (fun c837 => ?_)
  rotate_left
  · exfalso; exact absurd c837 (by decide +kernel)
  refine V.iload C dL_law_842 rfl ?_
  refine V.if_ne C (tgt := 859) dL_law_844 (by decide) (fun c844 => ?_) (fun c844 => ?_)
  rotate_left
  · exfalso; exact absurd c844 (by decide +kernel)
  refine V.goto C (tgt := 1755) dL_law_859 (by decide) ?_
  exact law_tail C CXs kk (Nat.le_of_ble_eq_true rfl) (Nat.le_of_ble_eq_true rfl) (lsub_s rfl (lsub_n (lsub_n (lsub_n (lsub_s rfl (lsub_n (lsub_n (lsub_n (lsub_n lsub_e)))))))))
set_option maxRecDepth 100000 in
set_option maxHeartbeats 4000000 in
theorem law_12_x {κ : VK} {l : Launch} {D : va_G} {nm : String} {cI cL cII cO : ClassId} {e0 o b : Nat} {h g : Nat → Nat} {xs : Nat → Int32} (hfl : l.stackTraces = false) (C : Cx κ l D code RL wsL_law 9 ret (TY cI cL cII cO) room_1 nm) (CXs : CxX κ b 5 xs) (ZE : EZ κ e0) (ZX9 : XZ κ TL)  (kk : ∀ (w : va_W) (L : List (Option Value)), V κ 600000 7000000 w 1762 L [.int (nI 1)]) : V κ 100 2000 ((SW cI h jInit ++ [(o, .inl (cL, 1, .inr (.inl (fun _ => (0 : Int64)))))]) ++ (MF cI cII e0 g ((nI 0)))) 862 [some (.ref b), some (.ref (h 0)), some (.ref (g 0)), some (.ref o), some (.int (nI 0)), none, none, none, none] [] := by
  refine V.aload_n C dL_law_862 rfl ?_
  refine V.aload_n C dL_law_863 rfl ?_
  refine V.iload C dL_law_864 rfl ?_
  refine V.iconst C (v := nI 1) dL_law_866 (by decide) ?_
  refine V.iadd C dL_law_867 ?_
  refine V.topi (y := nI 1) (by decide +kernel) ?_
  refine V.sld C CXs (vp_in_nI (by decide) (by decide)) dL_law_868 ?_
  refine V.topi (y := xs 1) ((congrArg xs (nI_clamp (by decide)))) ?_
  refine V.aload_n C dL_law_869 rfl ?_
  refine V.iload C dL_law_870 rfl ?_
  refine V.iconst C (v := nI 2) dL_law_872 (by decide) ?_
  refine V.iadd C dL_law_873 ?_
  refine V.topi (y := nI 2) (by decide +kernel) ?_
  refine V.sld C CXs (vp_in_nI (by decide) (by decide)) dL_law_874 ?_
  refine V.topi (y := xs 2) ((congrArg xs (nI_clamp (by decide)))) ?_
  refine V.aload_n C dL_law_875 rfl ?_
  refine V.iload C dL_law_876 rfl ?_
  refine V.iconst C (v := nI 3) dL_law_878 (by decide) ?_
  refine V.iadd C dL_law_879 ?_
  refine V.topi (y := nI 3) (by decide +kernel) ?_
  refine V.sld C CXs (vp_in_nI (by decide) (by decide)) dL_law_880 ?_
  refine V.topi (y := xs 3) ((congrArg xs (nI_clamp (by decide)))) ?_
  refine V.aload_n C dL_law_881 rfl ?_
  refine V.hS C ZX9 (X := (MF cI cII e0 g ((nI 0)))) (ct_L_answer_x hfl rfl rfl) rfl gL_law_L_answer (n := 5) ⟨by decide, by decide, by decide +kernel⟩ rfl rfl ⟨Nat.le_of_ble_eq_true rfl, Nat.le_of_ble_eq_true rfl⟩ ⟨Nat.le_of_ble_eq_true rfl, Nat.le_of_ble_eq_true rfl⟩ (Nat.le_of_ble_eq_true rfl) rfl dL_law_882 ?_
  refine V.topi (y := nI 1) rfl ?_
  refine V.istore C dL_law_885 (by decide) rfl ?_
  dsimp only [List.set]
  refine V.aload_n C dL_law_887 rfl ?_
  refine V.aload_n C dL_law_888 rfl ?_
  refine V.iload C dL_law_889 rfl ?_
  refine V.iconst C (v := nI 1) dL_law_891 (by decide) ?_
  refine V.iadd C dL_law_892 ?_
  refine V.topi (y := nI 1) (by decide +kernel) ?_
  refine V.sld C CXs (vp_in_nI (by decide) (by decide)) dL_law_893 ?_
  refine V.topi (y := xs 1) ((congrArg xs (nI_clamp (by decide)))) ?_
  refine V.aload_n C dL_law_894 rfl ?_
  refine V.iload C dL_law_895 rfl ?_
  refine V.iconst C (v := nI 2) dL_law_897 (by decide) ?_
  refine V.iadd C dL_law_898 ?_
  refine V.topi (y := nI 2) (by decide +kernel) ?_
  refine V.sld C CXs (vp_in_nI (by decide) (by decide)) dL_law_899 ?_
  refine V.topi (y := xs 2) ((congrArg xs (nI_clamp (by decide)))) ?_
  refine V.aload_n C dL_law_900 rfl ?_
  refine V.iload C dL_law_901 rfl ?_
  refine V.iconst C (v := nI 3) dL_law_903 (by decide) ?_
  refine V.iadd C dL_law_904 ?_
  refine V.topi (y := nI 3) (by decide +kernel) ?_
  refine V.sld C CXs (vp_in_nI (by decide) (by decide)) dL_law_905 ?_
  refine V.topi (y := xs 3) ((congrArg xs (nI_clamp (by decide)))) ?_
  refine V.swapw ?_
  refine V.zVfx C ZE (X := _) (cz_X10_answer_x) rfl gLZ_answer (n := 3) ⟨rfl, by decide, by decide, by decide +kernel⟩ rfl (q0 := 0) rfl rfl rfl ⟨Nat.le_of_ble_eq_true rfl, Nat.le_of_ble_eq_true rfl⟩ ⟨Nat.le_of_ble_eq_true rfl, Nat.le_of_ble_eq_true rfl⟩ (Nat.le_of_ble_eq_true rfl) rfl dL_law_906 (fun fs => ?_)
  refine V.istore C dL_law_909 (by decide) rfl ?_
  dsimp only [List.set]
  refine V.aload_n C dL_law_911 rfl ?_
  refine V.zVin C ZE (cz_X10_thrown (x := nI 1) rfl) gLZ_thrown (n := 0) ⟨rfl, by decide, by decide, by decide +kernel⟩ rfl (q0 := 0) rfl rfl rfl ⟨Nat.le_of_ble_eq_true rfl, Nat.le_of_ble_eq_true rfl⟩ ⟨Nat.le_of_ble_eq_true rfl, Nat.le_of_ble_eq_true rfl⟩ (Nat.le_of_ble_eq_true rfl) rfl dL_law_912 ?_
  refine V.iload C dL_law_915 rfl ?_
  refine V.icmp_eq C (tgt := 922) dL_law_917 (by decide) (fun c917 => ?_) (fun c917 => ?_)
  rotate_left
  · exfalso; exact absurd c917 (by decide +kernel)
  refine V.iload C dL_law_922 rfl ?_
  refine V.if_ne C (tgt := 939) dL_law_924 (by decide) (fun c924 => ?_) (fun c924 => ?_)
  rotate_left
  · exfalso; exact absurd c924 (by decide +kernel)
  refine V.goto C (tgt := 1755) dL_law_939 (by decide) ?_
  exact law_tail C CXs kk (Nat.le_of_ble_eq_true rfl) (Nat.le_of_ble_eq_true rfl) (lsub_s rfl (lsub_n (lsub_n (lsub_n (lsub_s rfl (lsub_n (lsub_n (lsub_n (lsub_n lsub_e)))))))))
set_option maxRecDepth 100000 in
set_option maxHeartbeats 4000000 in
theorem law_13_x {κ : VK} {l : Launch} {D : va_G} {nm : String} {cI cL cII cO : ClassId} {e0 o b : Nat} {h g : Nat → Nat} {xs : Nat → Int32} (hfl : l.stackTraces = false) (C : Cx κ l D code RL wsL_law 9 ret (TY cI cL cII cO) room_1 nm) (CXs : CxX κ b 5 xs) (ZE : EZ κ e0) (ZX9 : XZ κ TL)  (kk : ∀ (w : va_W) (L : List (Option Value)), V κ 600000 7000000 w 1762 L [.int (nI 1)]) : V κ 100 2000 ((SW cI h jInit ++ [(o, .inl (cL, 1, .inr (.inl (fun _ => (0 : Int64)))))]) ++ (MF cI cII e0 g ((nI 0)))) 942 [some (.ref b), some (.ref (h 0)), some (.ref (g 0)), some (.ref o), some (.int (nI 0)), none, none, none, none] [] := by
  refine V.aload_n C dL_law_942 rfl ?_
  refine V.aload_n C dL_law_943 rfl ?_
  refine V.iload C dL_law_944 rfl ?_
  refine V.iconst C (v := nI 1) dL_law_946 (by decide) ?_
  refine V.iadd C dL_law_947 ?_
  refine V.topi (y := nI 1) (by decide +kernel) ?_
  refine V.sld C CXs (vp_in_nI (by decide) (by decide)) dL_law_948 ?_
  refine V.topi (y := xs 1) ((congrArg xs (nI_clamp (by decide)))) ?_
  refine V.aload_n C dL_law_949 rfl ?_
  refine V.iload C dL_law_950 rfl ?_
  refine V.iconst C (v := nI 2) dL_law_952 (by decide) ?_
  refine V.iadd C dL_law_953 ?_
  refine V.topi (y := nI 2) (by decide +kernel) ?_
  refine V.sld C CXs (vp_in_nI (by decide) (by decide)) dL_law_954 ?_
  refine V.topi (y := xs 2) ((congrArg xs (nI_clamp (by decide)))) ?_
  refine V.aload_n C dL_law_955 rfl ?_
  refine V.hS C ZX9 (X := (MF cI cII e0 g ((nI 0)))) (ct_L_ofInterview_x hfl rfl rfl) rfl gL_law_L_ofInterview (n := 4) ⟨by decide, by decide, by decide +kernel⟩ rfl rfl ⟨Nat.le_of_ble_eq_true rfl, Nat.le_of_ble_eq_true rfl⟩ ⟨Nat.le_of_ble_eq_true rfl, Nat.le_of_ble_eq_true rfl⟩ (Nat.le_of_ble_eq_true rfl) rfl dL_law_956 ?_
  refine V.topi (y := nI 1) rfl ?_
  refine V.istore C dL_law_959 (by decide) rfl ?_
  dsimp only [List.set]
  refine V.aload_n C dL_law_961 rfl ?_
  refine V.aload_n C dL_law_962 rfl ?_
  refine V.iload C dL_law_963 rfl ?_
  refine V.iconst C (v := nI 1) dL_law_965 (by decide) ?_
  refine V.iadd C dL_law_966 ?_
  refine V.topi (y := nI 1) (by decide +kernel) ?_
  refine V.sld C CXs (vp_in_nI (by decide) (by decide)) dL_law_967 ?_
  refine V.topi (y := xs 1) ((congrArg xs (nI_clamp (by decide)))) ?_
  refine V.aload_n C dL_law_968 rfl ?_
  refine V.iload C dL_law_969 rfl ?_
  refine V.iconst C (v := nI 2) dL_law_971 (by decide) ?_
  refine V.iadd C dL_law_972 ?_
  refine V.topi (y := nI 2) (by decide +kernel) ?_
  refine V.sld C CXs (vp_in_nI (by decide) (by decide)) dL_law_973 ?_
  refine V.topi (y := xs 2) ((congrArg xs (nI_clamp (by decide)))) ?_
  refine V.swapw ?_
  refine V.zVfx C ZE (X := _) (cz_X10_ofInterview_x) rfl gLZ_ofInterview (n := 2) ⟨rfl, by decide, by decide, by decide +kernel⟩ rfl (q0 := 0) rfl rfl rfl ⟨Nat.le_of_ble_eq_true rfl, Nat.le_of_ble_eq_true rfl⟩ ⟨Nat.le_of_ble_eq_true rfl, Nat.le_of_ble_eq_true rfl⟩ (Nat.le_of_ble_eq_true rfl) rfl dL_law_974 (fun fs => ?_)
  refine V.istore C dL_law_977 (by decide) rfl ?_
  dsimp only [List.set]
  refine V.aload_n C dL_law_979 rfl ?_
  refine V.zVin C ZE (cz_X10_thrown (x := nI 1) rfl) gLZ_thrown (n := 0) ⟨rfl, by decide, by decide, by decide +kernel⟩ rfl (q0 := 0) rfl rfl rfl ⟨Nat.le_of_ble_eq_true rfl, Nat.le_of_ble_eq_true rfl⟩ ⟨Nat.le_of_ble_eq_true rfl, Nat.le_of_ble_eq_true rfl⟩ (Nat.le_of_ble_eq_true rfl) rfl dL_law_980 ?_
  refine V.iload C dL_law_983 rfl ?_
  refine V.icmp_eq C (tgt := 990) dL_law_985 (by decide) (fun c985 => ?_) (fun c985 => ?_)
  rotate_left
  · exfalso; exact absurd c985 (by decide +kernel)
  refine V.iload C dL_law_990 rfl ?_
  refine V.if_ne C (tgt := 1007) dL_law_992 (by decide) (fun c992 => ?_) (fun c992 => ?_)
  rotate_left
  · exfalso; exact absurd c992 (by decide +kernel)
  refine V.goto C (tgt := 1755) dL_law_1007 (by decide) ?_
  exact law_tail C CXs kk (Nat.le_of_ble_eq_true rfl) (Nat.le_of_ble_eq_true rfl) (lsub_s rfl (lsub_n (lsub_n (lsub_n (lsub_s rfl (lsub_n (lsub_n (lsub_n (lsub_n lsub_e)))))))))
set_option maxRecDepth 100000 in
set_option maxHeartbeats 4000000 in
theorem law_14_x {κ : VK} {l : Launch} {D : va_G} {nm : String} {cI cL cII cO : ClassId} {e0 o b : Nat} {h g : Nat → Nat} {xs : Nat → Int32} (hfl : l.stackTraces = false) (C : Cx κ l D code RL wsL_law 9 ret (TY cI cL cII cO) room_1 nm) (CXs : CxX κ b 5 xs) (ZE : EZ κ e0) (ZX9 : XZ κ TL)  (kk : ∀ (w : va_W) (L : List (Option Value)), V κ 600000 7000000 w 1762 L [.int (nI 1)]) : V κ 100 2000 ((SW cI h jInit ++ [(o, .inl (cL, 1, .inr (.inl (fun _ => (0 : Int64)))))]) ++ (MF cI cII e0 g ((nI 0)))) 1010 [some (.ref b), some (.ref (h 0)), some (.ref (g 0)), some (.ref o), some (.int (nI 0)), none, none, none, none] [] := by
  refine V.aload_n C dL_law_1010 rfl ?_
  refine V.aload_n C dL_law_1011 rfl ?_
  refine V.iload C dL_law_1012 rfl ?_
  refine V.iconst C (v := nI 1) dL_law_1014 (by decide) ?_
  refine V.iadd C dL_law_1015 ?_
  refine V.topi (y := nI 1) (by decide +kernel) ?_
  refine V.sld C CXs (vp_in_nI (by decide) (by decide)) dL_law_1016 ?_
  refine V.topi (y := xs 1) ((congrArg xs (nI_clamp (by decide)))) ?_
  refine V.aload_n C dL_law_1017 rfl ?_
  refine V.iload C dL_law_1018 rfl ?_
  refine V.iconst C (v := nI 2) dL_law_1020 (by decide) ?_
  refine V.iadd C dL_law_1021 ?_
  refine V.topi (y := nI 2) (by decide +kernel) ?_
  refine V.sld C CXs (vp_in_nI (by decide) (by decide)) dL_law_1022 ?_
  refine V.topi (y := xs 2) ((congrArg xs (nI_clamp (by decide)))) ?_
  refine V.aload_n C dL_law_1023 rfl ?_
  refine V.hS C ZX9 (X := (MF cI cII e0 g ((nI 0)))) (ct_L_given_x hfl rfl rfl) rfl gL_law_L_given (n := 4) ⟨by decide, by decide, by decide +kernel⟩ rfl rfl ⟨Nat.le_of_ble_eq_true rfl, Nat.le_of_ble_eq_true rfl⟩ ⟨Nat.le_of_ble_eq_true rfl, Nat.le_of_ble_eq_true rfl⟩ (Nat.le_of_ble_eq_true rfl) rfl dL_law_1024 ?_
  refine V.topi (y := nI 1) rfl ?_
  refine V.istore C dL_law_1027 (by decide) rfl ?_
  dsimp only [List.set]
  refine V.aload_n C dL_law_1029 rfl ?_
  refine V.aload_n C dL_law_1030 rfl ?_
  refine V.iload C dL_law_1031 rfl ?_
  refine V.iconst C (v := nI 1) dL_law_1033 (by decide) ?_
  refine V.iadd C dL_law_1034 ?_
  refine V.topi (y := nI 1) (by decide +kernel) ?_
  refine V.sld C CXs (vp_in_nI (by decide) (by decide)) dL_law_1035 ?_
  refine V.topi (y := xs 1) ((congrArg xs (nI_clamp (by decide)))) ?_
  refine V.aload_n C dL_law_1036 rfl ?_
  refine V.iload C dL_law_1037 rfl ?_
  refine V.iconst C (v := nI 2) dL_law_1039 (by decide) ?_
  refine V.iadd C dL_law_1040 ?_
  refine V.topi (y := nI 2) (by decide +kernel) ?_
  refine V.sld C CXs (vp_in_nI (by decide) (by decide)) dL_law_1041 ?_
  refine V.topi (y := xs 2) ((congrArg xs (nI_clamp (by decide)))) ?_
  refine V.swapw ?_
  refine V.zVfx C ZE (X := _) (cz_X10_given_x) rfl gLZ_given (n := 2) ⟨rfl, by decide, by decide, by decide +kernel⟩ rfl (q0 := 0) rfl rfl rfl ⟨Nat.le_of_ble_eq_true rfl, Nat.le_of_ble_eq_true rfl⟩ ⟨Nat.le_of_ble_eq_true rfl, Nat.le_of_ble_eq_true rfl⟩ (Nat.le_of_ble_eq_true rfl) rfl dL_law_1042 (fun fs => ?_)
  refine V.istore C dL_law_1045 (by decide) rfl ?_
  dsimp only [List.set]
  refine V.aload_n C dL_law_1047 rfl ?_
  refine V.zVin C ZE (cz_X10_thrown (x := nI 1) rfl) gLZ_thrown (n := 0) ⟨rfl, by decide, by decide, by decide +kernel⟩ rfl (q0 := 0) rfl rfl rfl ⟨Nat.le_of_ble_eq_true rfl, Nat.le_of_ble_eq_true rfl⟩ ⟨Nat.le_of_ble_eq_true rfl, Nat.le_of_ble_eq_true rfl⟩ (Nat.le_of_ble_eq_true rfl) rfl dL_law_1048 ?_
  refine V.iload C dL_law_1051 rfl ?_
  refine V.icmp_eq C (tgt := 1058) dL_law_1053 (by decide) (fun c1053 => ?_) (fun c1053 => ?_)
  rotate_left
  · exfalso; exact absurd c1053 (by decide +kernel)
  refine V.iload C dL_law_1058 rfl ?_
  refine V.if_ne C (tgt := 1075) dL_law_1060 (by decide) (fun c1060 => ?_) (fun c1060 => ?_)
  rotate_left
  · exfalso; exact absurd c1060 (by decide +kernel)
  refine V.goto C (tgt := 1755) dL_law_1075 (by decide) ?_
  exact law_tail C CXs kk (Nat.le_of_ble_eq_true rfl) (Nat.le_of_ble_eq_true rfl) (lsub_s rfl (lsub_n (lsub_n (lsub_n (lsub_s rfl (lsub_n (lsub_n (lsub_n (lsub_n lsub_e)))))))))
set_option maxRecDepth 100000 in
set_option maxHeartbeats 4000000 in
theorem law_15 {κ : VK} {l : Launch} {D : va_G} {nm : String} {cI cL cII cO : ClassId} {e0 o b : Nat} {h g : Nat → Nat} {xs : Nat → Int32} (hfl : l.stackTraces = false) (C : Cx κ l D code RL wsL_law 9 ret (TY cI cL cII cO) room_1 nm) (CXs : CxX κ b 5 xs) (ZE : EZ κ e0) (ZX9 : XZ κ TL)  (kk : ∀ (w : va_W) (L : List (Option Value)), V κ 600000 7000000 w 1762 L [.int (nI 1)]) : V κ 100 2000 ((SW cI h jInit ++ [(o, .inl (cL, 1, .inr (.inl (fun _ => (0 : Int64)))))]) ++ (MF cI cII e0 g ((nI 0)))) 1078 [some (.ref b), some (.ref (h 0)), some (.ref (g 0)), some (.ref o), some (.int (nI 0)), none, none, none, none] [] := by
  refine V.aload_n C dL_law_1078 rfl ?_
  refine V.world (w' := SW cI h jInit ++ ([(o, .inl (cL, 1, .inr (.inl (fun _ => (0 : Int64)))))] ++ (MF cI cII e0 g ((nI 0))))) rfl ?_
  refine V.callVXi C (X := _) (ct_X6_clean (N := 0) (n := 3) rfl rfl (by decide) (fun p hp => absurd hp (Nat.not_lt_zero p)) (fun p hp => absurd hp (Nat.not_lt_zero p)) rfl (by decide)) rfl gL_law_X6_clean (n := 0) ⟨rfl, by decide, by decide, by decide +kernel⟩ rfl (q0 := 0) rfl rfl rfl ⟨Nat.le_of_ble_eq_true rfl, Nat.le_of_ble_eq_true rfl⟩ ⟨rfl, rfl, Nat.le_of_ble_eq_true rfl, Nat.le_of_ble_eq_true rfl⟩ (Nat.le_of_ble_eq_true rfl) rfl dL_law_1079 ?_
  refine V.topi (y := nI 0) (rfl) ?_
  refine V.world (w' := (SW cI h (jWeigh (jCl jInit 0) 24 0 3) ++ [(o, .inl (cL, 1, .inr (.inl (fun _ => (0 : Int64)))))]) ++ (MF cI cII e0 g ((nI 0)))) rfl ?_
  refine V.aload_n C dL_law_1082 rfl ?_
  refine V.swapw ?_
  refine V.zVfx C ZE (X := _) (cz_X10_clean) rfl gLZ_clean (n := 0) ⟨rfl, by decide, by decide, by decide +kernel⟩ rfl (q0 := 0) rfl rfl rfl ⟨Nat.le_of_ble_eq_true rfl, Nat.le_of_ble_eq_true rfl⟩ ⟨Nat.le_of_ble_eq_true rfl, Nat.le_of_ble_eq_true rfl⟩ (Nat.le_of_ble_eq_true rfl) rfl dL_law_1083 (fun fs => ?_)
  refine V.icmp_eq C (tgt := 1755) dL_law_1086 (by decide) (fun c1086 => ?_) (fun c1086 => ?_)
  rotate_left
  · exfalso; exact absurd c1086 (by decide +kernel)
  exact law_tail C CXs kk (Nat.le_of_ble_eq_true rfl) (Nat.le_of_ble_eq_true rfl) (lsub_s rfl (lsub_n (lsub_n (lsub_n (lsub_s rfl (lsub_n (lsub_n (lsub_n (lsub_n lsub_e)))))))))
set_option maxRecDepth 100000 in
set_option maxHeartbeats 4000000 in
theorem law_16_x {κ : VK} {l : Launch} {D : va_G} {nm : String} {cI cL cII cO : ClassId} {e0 o b : Nat} {h g : Nat → Nat} {xs : Nat → Int32} (hfl : l.stackTraces = false) (C : Cx κ l D code RL wsL_law 9 ret (TY cI cL cII cO) room_1 nm) (CXs : CxX κ b 5 xs) (ZE : EZ κ e0) (ZX9 : XZ κ TL) (hx : xs 1 < nI 0 ∨ nI 11 < xs 1) (kk : ∀ (w : va_W) (L : List (Option Value)), V κ 600000 7000000 w 1762 L [.int (nI 1)]) : V κ 100 2000 ((SW cI h jInit ++ [(o, .inl (cL, 1, .inr (.inl (fun _ => (0 : Int64)))))]) ++ (MF cI cII e0 g ((nI 0)))) 1091 [some (.ref b), some (.ref (h 0)), some (.ref (g 0)), some (.ref o), some (.int (nI 0)), none, none, none, none] [] := by
  refine V.aload_n C dL_law_1091 rfl ?_
  refine V.aload_n C dL_law_1092 rfl ?_
  refine V.iload C dL_law_1093 rfl ?_
  refine V.iconst C (v := nI 1) dL_law_1095 (by decide) ?_
  refine V.iadd C dL_law_1096 ?_
  refine V.topi (y := nI 1) (by decide +kernel) ?_
  refine V.sld C CXs (vp_in_nI (by decide) (by decide)) dL_law_1097 ?_
  refine V.topi (y := xs 1) ((congrArg xs (nI_clamp (by decide)))) ?_
  refine V.aload_n C dL_law_1098 rfl ?_
  refine V.hS C ZX9 (X := (MF cI cII e0 g ((nI 0)))) (ct_L_many_x hfl rfl rfl hx) rfl gL_law_L_many (n := 3) ⟨by decide, by decide, by decide +kernel⟩ rfl rfl ⟨Nat.le_of_ble_eq_true rfl, Nat.le_of_ble_eq_true rfl⟩ ⟨Nat.le_of_ble_eq_true rfl, Nat.le_of_ble_eq_true rfl⟩ (Nat.le_of_ble_eq_true rfl) rfl dL_law_1099 ?_
  refine V.topi (y := nI 1) rfl ?_
  refine V.istore C dL_law_1102 (by decide) rfl ?_
  dsimp only [List.set]
  refine V.aload_n C dL_law_1104 rfl ?_
  refine V.aload_n C dL_law_1105 rfl ?_
  refine V.iload C dL_law_1106 rfl ?_
  refine V.iconst C (v := nI 1) dL_law_1108 (by decide) ?_
  refine V.iadd C dL_law_1109 ?_
  refine V.topi (y := nI 1) (by decide +kernel) ?_
  refine V.sld C CXs (vp_in_nI (by decide) (by decide)) dL_law_1110 ?_
  refine V.topi (y := xs 1) ((congrArg xs (nI_clamp (by decide)))) ?_
  refine V.swapw ?_
  refine V.zVfx C ZE (X := _) (cz_X10_many_x hx) rfl gLZ_many (n := 1) ⟨rfl, by decide, by decide, by decide +kernel⟩ rfl (q0 := 0) rfl rfl rfl ⟨Nat.le_of_ble_eq_true rfl, Nat.le_of_ble_eq_true rfl⟩ ⟨Nat.le_of_ble_eq_true rfl, Nat.le_of_ble_eq_true rfl⟩ (Nat.le_of_ble_eq_true rfl) rfl dL_law_1111 (fun fs => ?_)
  refine V.istore C dL_law_1114 (by decide) rfl ?_
  dsimp only [List.set]
  refine V.aload_n C dL_law_1116 rfl ?_
  refine V.zVin C ZE (cz_X10_thrown (x := nI 1) rfl) gLZ_thrown (n := 0) ⟨rfl, by decide, by decide, by decide +kernel⟩ rfl (q0 := 0) rfl rfl rfl ⟨Nat.le_of_ble_eq_true rfl, Nat.le_of_ble_eq_true rfl⟩ ⟨Nat.le_of_ble_eq_true rfl, Nat.le_of_ble_eq_true rfl⟩ (Nat.le_of_ble_eq_true rfl) rfl dL_law_1117 ?_
  refine V.iload C dL_law_1120 rfl ?_
  refine V.icmp_eq C (tgt := 1127) dL_law_1122 (by decide) (fun c1122 => ?_) (fun c1122 => ?_)
  rotate_left
  · exfalso; exact absurd c1122 (by decide +kernel)
  refine V.iload C dL_law_1127 rfl ?_
  refine V.if_ne C (tgt := 1144) dL_law_1129 (by decide) (fun c1129 => ?_) (fun c1129 => ?_)
  rotate_left
  · exfalso; exact absurd c1129 (by decide +kernel)
  refine V.goto C (tgt := 1755) dL_law_1144 (by decide) ?_
  exact law_tail C CXs kk (Nat.le_of_ble_eq_true rfl) (Nat.le_of_ble_eq_true rfl) (lsub_s rfl (lsub_n (lsub_n (lsub_n (lsub_s rfl (lsub_n (lsub_n (lsub_n (lsub_n lsub_e)))))))))
set_option maxRecDepth 100000 in
set_option maxHeartbeats 4000000 in
theorem law_16_ok {κ : VK} {l : Launch} {D : va_G} {nm : String} {cI cL cII cO : ClassId} {e0 o b : Nat} {h g : Nat → Nat} {xs : Nat → Int32} (hfl : l.stackTraces = false) (C : Cx κ l D code RL wsL_law 9 ret (TY cI cL cII cO) room_1 nm) (CXs : CxX κ b 5 xs) (ZE : EZ κ e0) (ZX9 : XZ κ TL) {a : Nat} (ha : a < 12) (e1 : xs 1 = nI a) (kk : ∀ (w : va_W) (L : List (Option Value)), V κ 600000 7000000 w 1762 L [.int (nI 1)]) : V κ 100 2000 ((SW cI h jInit ++ [(o, .inl (cL, 1, .inr (.inl (fun _ => (0 : Int64)))))]) ++ (MF cI cII e0 g ((nI 0)))) 1091 [some (.ref b), some (.ref (h 0)), some (.ref (g 0)), some (.ref o), some (.int (nI 0)), none, none, none, none] [] := by
  refine V.aload_n C dL_law_1091 rfl ?_
  refine V.aload_n C dL_law_1092 rfl ?_
  refine V.iload C dL_law_1093 rfl ?_
  refine V.iconst C (v := nI 1) dL_law_1095 (by decide) ?_
  refine V.iadd C dL_law_1096 ?_
  refine V.topi (y := nI 1) (by decide +kernel) ?_
  refine V.sld C CXs (vp_in_nI (by decide) (by decide)) dL_law_1097 ?_
  refine V.topi (y := nI a) ((congrArg xs (nI_clamp (by decide))).trans e1) ?_
  refine V.aload_n C dL_law_1098 rfl ?_
  refine V.hS C ZX9 (X := (MF cI cII e0 g ((nI 0)))) (ct_L_many_ok hfl rfl rfl ha) rfl gL_law_L_many (n := 3) ⟨by decide, by decide, by decide +kernel⟩ rfl rfl ⟨Nat.le_of_ble_eq_true rfl, Nat.le_of_ble_eq_true rfl⟩ ⟨Nat.le_of_ble_eq_true rfl, Nat.le_of_ble_eq_true rfl⟩ (Nat.le_of_ble_eq_true rfl) rfl dL_law_1099 ?_
  refine V.topi (y := nI 0) rfl ?_
  refine V.istore C dL_law_1102 (by decide) rfl ?_
  dsimp only [List.set]
  refine V.aload_n C dL_law_1104 rfl ?_
  refine V.aload_n C dL_law_1105 rfl ?_
  refine V.iload C dL_law_1106 rfl ?_
  refine V.iconst C (v := nI 1) dL_law_1108 (by decide) ?_
  refine V.iadd C dL_law_1109 ?_
  refine V.topi (y := nI 1) (by decide +kernel) ?_
  refine V.sld C CXs (vp_in_nI (by decide) (by decide)) dL_law_1110 ?_
  refine V.topi (y := nI a) ((congrArg xs (nI_clamp (by decide))).trans e1) ?_
  refine V.swapw ?_
  refine V.zVfx C ZE (X := _) (cz_X10_many_ok ha) rfl gLZ_many (n := 1) ⟨rfl, by decide, by decide, by decide +kernel⟩ rfl (q0 := 0) rfl rfl rfl ⟨Nat.le_of_ble_eq_true rfl, Nat.le_of_ble_eq_true rfl⟩ ⟨Nat.le_of_ble_eq_true rfl, Nat.le_of_ble_eq_true rfl⟩ (Nat.le_of_ble_eq_true rfl) rfl dL_law_1111 (fun fs => ?_)
  refine V.istore C dL_law_1114 (by decide) rfl ?_
  dsimp only [List.set]
  refine V.aload_n C dL_law_1116 rfl ?_
  refine V.zVin C ZE (cz_X10_thrown (x := nI 0) rfl) gLZ_thrown (n := 0) ⟨rfl, by decide, by decide, by decide +kernel⟩ rfl (q0 := 0) rfl rfl rfl ⟨Nat.le_of_ble_eq_true rfl, Nat.le_of_ble_eq_true rfl⟩ ⟨Nat.le_of_ble_eq_true rfl, Nat.le_of_ble_eq_true rfl⟩ (Nat.le_of_ble_eq_true rfl) rfl dL_law_1117 ?_
  refine V.iload C dL_law_1120 rfl ?_
  refine V.icmp_eq C (tgt := 1127) dL_law_1122 (by decide) (fun c1122 => ?_) (fun c1122 => ?_)
  rotate_left
  · exfalso; exact absurd c1122 (by decide +kernel)
  refine V.iload C dL_law_1127 rfl ?_
  refine V.if_ne C (tgt := 1144) dL_law_1129 (by decide) (fun c1129 => ?_) (fun c1129 => ?_)
  · exfalso; exact absurd c1129 (by decide +kernel)
  refine V.aload_n C dL_law_1132 rfl ?_
  refine V.iconst C (v := nI 0) dL_law_1133 (by decide) ?_
  refine V.lald C (q0 := 28) (t0 := 1) rfl rfl rfl (by decide) (by decide) dL_law_1134 ?_
  refine V.topl (y := 0) (pk_uLs.trans (by decide +kernel)) ?_
  refine V.iload C dL_law_1135 rfl ?_
  refine V.i2l C dL_law_1137 ?_
  refine V.topl (y := 0) (by decide +kernel) ?_
  refine V.lcmp C dL_law_1138 ?_
  refine V.if_eq C (tgt := 1144) dL_law_1139 (by decide) (fun c1139 => ?_) (fun c1139 => ?_)
  rotate_left
  · exfalso; exact absurd c1139 (by decide +kernel)
  refine V.goto C (tgt := 1755) dL_law_1144 (by decide) ?_
  exact law_tail C CXs kk (Nat.le_of_ble_eq_true rfl) (Nat.le_of_ble_eq_true rfl) (lsub_s rfl (lsub_n (lsub_n (lsub_n (lsub_s rfl (lsub_n (lsub_n (lsub_n (lsub_n lsub_e)))))))))
set_option maxRecDepth 100000 in
set_option maxHeartbeats 4000000 in
theorem law_17_x {κ : VK} {l : Launch} {D : va_G} {nm : String} {cI cL cII cO : ClassId} {e0 o b : Nat} {h g : Nat → Nat} {xs : Nat → Int32} (hfl : l.stackTraces = false) (C : Cx κ l D code RL wsL_law 9 ret (TY cI cL cII cO) room_1 nm) (CXs : CxX κ b 5 xs) (ZE : EZ κ e0) (ZX9 : XZ κ TL) (hx : xs 1 < nI 0 ∨ nI 9 < xs 1) (kk : ∀ (w : va_W) (L : List (Option Value)), V κ 600000 7000000 w 1762 L [.int (nI 1)]) : V κ 100 2000 ((SW cI h jInit ++ [(o, .inl (cL, 1, .inr (.inl (fun _ => (0 : Int64)))))]) ++ (MF cI cII e0 g ((nI 0)))) 1147 [some (.ref b), some (.ref (h 0)), some (.ref (g 0)), some (.ref o), some (.int (nI 0)), none, none, none, none] [] := by
  refine V.aload_n C dL_law_1147 rfl ?_
  refine V.aload_n C dL_law_1148 rfl ?_
  refine V.iload C dL_law_1149 rfl ?_
  refine V.iconst C (v := nI 1) dL_law_1151 (by decide) ?_
  refine V.iadd C dL_law_1152 ?_
  refine V.topi (y := nI 1) (by decide +kernel) ?_
  refine V.sld C CXs (vp_in_nI (by decide) (by decide)) dL_law_1153 ?_
  refine V.topi (y := xs 1) ((congrArg xs (nI_clamp (by decide)))) ?_
  refine V.aload_n C dL_law_1154 rfl ?_
  refine V.hS C ZX9 (X := (MF cI cII e0 g ((nI 0)))) (ct_L_rounds_x hfl rfl rfl hx) rfl gL_law_L_rounds (n := 3) ⟨by decide, by decide, by decide +kernel⟩ rfl rfl ⟨Nat.le_of_ble_eq_true rfl, Nat.le_of_ble_eq_true rfl⟩ ⟨Nat.le_of_ble_eq_true rfl, Nat.le_of_ble_eq_true rfl⟩ (Nat.le_of_ble_eq_true rfl) rfl dL_law_1155 ?_
  refine V.topi (y := nI 1) rfl ?_
  refine V.istore C dL_law_1158 (by decide) rfl ?_
  dsimp only [List.set]
  refine V.aload_n C dL_law_1160 rfl ?_
  refine V.aload_n C dL_law_1161 rfl ?_
  refine V.iload C dL_law_1162 rfl ?_
  refine V.iconst C (v := nI 1) dL_law_1164 (by decide) ?_
  refine V.iadd C dL_law_1165 ?_
  refine V.topi (y := nI 1) (by decide +kernel) ?_
  refine V.sld C CXs (vp_in_nI (by decide) (by decide)) dL_law_1166 ?_
  refine V.topi (y := xs 1) ((congrArg xs (nI_clamp (by decide)))) ?_
  refine V.swapw ?_
  refine V.zVfx C ZE (X := _) (cz_X10_rounds_x hx) rfl gLZ_rounds (n := 1) ⟨rfl, by decide, by decide, by decide +kernel⟩ rfl (q0 := 0) rfl rfl rfl ⟨Nat.le_of_ble_eq_true rfl, Nat.le_of_ble_eq_true rfl⟩ ⟨Nat.le_of_ble_eq_true rfl, Nat.le_of_ble_eq_true rfl⟩ (Nat.le_of_ble_eq_true rfl) rfl dL_law_1167 (fun fs => ?_)
  refine V.istore C dL_law_1170 (by decide) rfl ?_
  dsimp only [List.set]
  refine V.aload_n C dL_law_1172 rfl ?_
  refine V.zVin C ZE (cz_X10_thrown (x := nI 1) rfl) gLZ_thrown (n := 0) ⟨rfl, by decide, by decide, by decide +kernel⟩ rfl (q0 := 0) rfl rfl rfl ⟨Nat.le_of_ble_eq_true rfl, Nat.le_of_ble_eq_true rfl⟩ ⟨Nat.le_of_ble_eq_true rfl, Nat.le_of_ble_eq_true rfl⟩ (Nat.le_of_ble_eq_true rfl) rfl dL_law_1173 ?_
  refine V.iload C dL_law_1176 rfl ?_
  refine V.icmp_eq C (tgt := 1183) dL_law_1178 (by decide) (fun c1178 => ?_) (fun c1178 => ?_)
  rotate_left
  · exfalso; exact absurd c1178 (by decide +kernel)
  refine V.iload C dL_law_1183 rfl ?_
  refine V.if_ne C (tgt := 1200) dL_law_1185 (by decide) (fun c1185 => ?_) (fun c1185 => ?_)
  rotate_left
  · exfalso; exact absurd c1185 (by decide +kernel)
  refine V.goto C (tgt := 1755) dL_law_1200 (by decide) ?_
  exact law_tail C CXs kk (Nat.le_of_ble_eq_true rfl) (Nat.le_of_ble_eq_true rfl) (lsub_s rfl (lsub_n (lsub_n (lsub_n (lsub_s rfl (lsub_n (lsub_n (lsub_n (lsub_n lsub_e)))))))))
set_option maxRecDepth 100000 in
set_option maxHeartbeats 4000000 in
theorem law_17_ok {κ : VK} {l : Launch} {D : va_G} {nm : String} {cI cL cII cO : ClassId} {e0 o b : Nat} {h g : Nat → Nat} {xs : Nat → Int32} (hfl : l.stackTraces = false) (C : Cx κ l D code RL wsL_law 9 ret (TY cI cL cII cO) room_1 nm) (CXs : CxX κ b 5 xs) (ZE : EZ κ e0) (ZX9 : XZ κ TL) {a : Nat} (ha : a ≤ 9) (e1 : xs 1 = nI a) (kk : ∀ (w : va_W) (L : List (Option Value)), V κ 600000 7000000 w 1762 L [.int (nI 1)]) : V κ 100 2000 ((SW cI h jInit ++ [(o, .inl (cL, 1, .inr (.inl (fun _ => (0 : Int64)))))]) ++ (MF cI cII e0 g ((nI 0)))) 1147 [some (.ref b), some (.ref (h 0)), some (.ref (g 0)), some (.ref o), some (.int (nI 0)), none, none, none, none] [] := by
  refine V.aload_n C dL_law_1147 rfl ?_
  refine V.aload_n C dL_law_1148 rfl ?_
  refine V.iload C dL_law_1149 rfl ?_
  refine V.iconst C (v := nI 1) dL_law_1151 (by decide) ?_
  refine V.iadd C dL_law_1152 ?_
  refine V.topi (y := nI 1) (by decide +kernel) ?_
  refine V.sld C CXs (vp_in_nI (by decide) (by decide)) dL_law_1153 ?_
  refine V.topi (y := nI a) ((congrArg xs (nI_clamp (by decide))).trans e1) ?_
  refine V.aload_n C dL_law_1154 rfl ?_
  refine V.hS C ZX9 (X := (MF cI cII e0 g ((nI 0)))) (ct_L_rounds_ok hfl rfl rfl ha) rfl gL_law_L_rounds (n := 3) ⟨by decide, by decide, by decide +kernel⟩ rfl rfl ⟨Nat.le_of_ble_eq_true rfl, Nat.le_of_ble_eq_true rfl⟩ ⟨Nat.le_of_ble_eq_true rfl, Nat.le_of_ble_eq_true rfl⟩ (Nat.le_of_ble_eq_true rfl) rfl dL_law_1155 ?_
  refine V.topi (y := nI 0) rfl ?_
  refine V.istore C dL_law_1158 (by decide) rfl ?_
  dsimp only [List.set]
  refine V.aload_n C dL_law_1160 rfl ?_
  refine V.aload_n C dL_law_1161 rfl ?_
  refine V.iload C dL_law_1162 rfl ?_
  refine V.iconst C (v := nI 1) dL_law_1164 (by decide) ?_
  refine V.iadd C dL_law_1165 ?_
  refine V.topi (y := nI 1) (by decide +kernel) ?_
  refine V.sld C CXs (vp_in_nI (by decide) (by decide)) dL_law_1166 ?_
  refine V.topi (y := nI a) ((congrArg xs (nI_clamp (by decide))).trans e1) ?_
  refine V.swapw ?_
  refine V.zVfx C ZE (X := _) (cz_X10_rounds_ok ha) rfl gLZ_rounds (n := 1) ⟨rfl, by decide, by decide, by decide +kernel⟩ rfl (q0 := 0) rfl rfl rfl ⟨Nat.le_of_ble_eq_true rfl, Nat.le_of_ble_eq_true rfl⟩ ⟨Nat.le_of_ble_eq_true rfl, Nat.le_of_ble_eq_true rfl⟩ (Nat.le_of_ble_eq_true rfl) rfl dL_law_1167 (fun fs => ?_)
  refine V.istore C dL_law_1170 (by decide) rfl ?_
  dsimp only [List.set]
  refine V.aload_n C dL_law_1172 rfl ?_
  refine V.zVin C ZE (cz_X10_thrown (x := nI 0) rfl) gLZ_thrown (n := 0) ⟨rfl, by decide, by decide, by decide +kernel⟩ rfl (q0 := 0) rfl rfl rfl ⟨Nat.le_of_ble_eq_true rfl, Nat.le_of_ble_eq_true rfl⟩ ⟨Nat.le_of_ble_eq_true rfl, Nat.le_of_ble_eq_true rfl⟩ (Nat.le_of_ble_eq_true rfl) rfl dL_law_1173 ?_
  refine V.iload C dL_law_1176 rfl ?_
  refine V.icmp_eq C (tgt := 1183) dL_law_1178 (by decide) (fun c1178 => ?_) (fun c1178 => ?_)
  rotate_left
  · exfalso; exact absurd c1178 (by decide +kernel)
  refine V.iload C dL_law_1183 rfl ?_
  refine V.if_ne C (tgt := 1200) dL_law_1185 (by decide) (fun c1185 => ?_) (fun c1185 => ?_)
  · exfalso; exact absurd c1185 (by decide +kernel)
  refine V.aload_n C dL_law_1188 rfl ?_
  refine V.iconst C (v := nI 0) dL_law_1189 (by decide) ?_
  refine V.lald C (q0 := 28) (t0 := 1) rfl rfl rfl (by decide) (by decide) dL_law_1190 ?_
  refine V.topl (y := 3) (pk_uLs.trans (by decide +kernel)) ?_
  refine V.iload C dL_law_1191 rfl ?_
  refine V.i2l C dL_law_1193 ?_
  refine V.topl (y := 3) (by decide +kernel) ?_
  refine V.lcmp C dL_law_1194 ?_
  refine V.if_eq C (tgt := 1200) dL_law_1195 (by decide) (fun c1195 => ?_) (fun c1195 => ?_)
  rotate_left
  · exfalso; exact absurd c1195 (by decide +kernel)
  refine V.goto C (tgt := 1755) dL_law_1200 (by decide) ?_
  exact law_tail C CXs kk (Nat.le_of_ble_eq_true rfl) (Nat.le_of_ble_eq_true rfl) (lsub_s rfl (lsub_n (lsub_n (lsub_n (lsub_s rfl (lsub_n (lsub_n (lsub_n (lsub_n lsub_e)))))))))
set_option maxRecDepth 100000 in
set_option maxHeartbeats 4000000 in
theorem law_25_x {κ : VK} {l : Launch} {D : va_G} {nm : String} {cI cL cII cO : ClassId} {e0 o b : Nat} {h g : Nat → Nat} {xs : Nat → Int32} (hfl : l.stackTraces = false) (C : Cx κ l D code RL wsL_law 9 ret (TY cI cL cII cO) room_1 nm) (CXs : CxX κ b 5 xs) (ZE : EZ κ e0) (ZX9 : XZ κ TL) (hx : xs 1 < nI 0 ∨ nI 9 < xs 1) (kk : ∀ (w : va_W) (L : List (Option Value)), V κ 600000 7000000 w 1762 L [.int (nI 1)]) : V κ 100 2000 ((SW cI h jInit ++ [(o, .inl (cL, 1, .inr (.inl (fun _ => (0 : Int64)))))]) ++ (MF cI cII e0 g ((nI 0)))) 1573 [some (.ref b), some (.ref (h 0)), some (.ref (g 0)), some (.ref o), some (.int (nI 0)), none, none, none, none] [] := by
  refine V.aload_n C dL_law_1573 rfl ?_
  refine V.aload_n C dL_law_1574 rfl ?_
  refine V.iload C dL_law_1575 rfl ?_
  refine V.iconst C (v := nI 1) dL_law_1577 (by decide) ?_
  refine V.iadd C dL_law_1578 ?_
  refine V.topi (y := nI 1) (by decide +kernel) ?_
  refine V.sld C CXs (vp_in_nI (by decide) (by decide)) dL_law_1579 ?_
  refine V.topi (y := xs 1) ((congrArg xs (nI_clamp (by decide)))) ?_
  refine V.aload_n C dL_law_1580 rfl ?_
  refine V.hS C ZX9 (X := (MF cI cII e0 g ((nI 0)))) (ct_L_nextIn_x hfl rfl rfl hx) rfl gL_law_L_nextIn (n := 3) ⟨by decide, by decide, by decide +kernel⟩ rfl rfl ⟨Nat.le_of_ble_eq_true rfl, Nat.le_of_ble_eq_true rfl⟩ ⟨Nat.le_of_ble_eq_true rfl, Nat.le_of_ble_eq_true rfl⟩ (Nat.le_of_ble_eq_true rfl) rfl dL_law_1581 ?_
  refine V.topi (y := nI 1) rfl ?_
  refine V.istore C dL_law_1584 (by decide) rfl ?_
  dsimp only [List.set]
  refine V.aload_n C dL_law_1586 rfl ?_
  refine V.aload_n C dL_law_1587 rfl ?_
  refine V.iload C dL_law_1588 rfl ?_
  refine V.iconst C (v := nI 1) dL_law_1590 (by decide) ?_
  refine V.iadd C dL_law_1591 ?_
  refine V.topi (y := nI 1) (by decide +kernel) ?_
  refine V.sld C CXs (vp_in_nI (by decide) (by decide)) dL_law_1592 ?_
  refine V.topi (y := xs 1) ((congrArg xs (nI_clamp (by decide)))) ?_
  refine V.swapw ?_
  refine V.zVfx C ZE (X := _) (cz_X10_nextIn_x hx) rfl gLZ_nextIn (n := 1) ⟨rfl, by decide, by decide, by decide +kernel⟩ rfl (q0 := 0) rfl rfl rfl ⟨Nat.le_of_ble_eq_true rfl, Nat.le_of_ble_eq_true rfl⟩ ⟨Nat.le_of_ble_eq_true rfl, Nat.le_of_ble_eq_true rfl⟩ (Nat.le_of_ble_eq_true rfl) rfl dL_law_1593 (fun fs => ?_)
  refine V.istore C dL_law_1596 (by decide) rfl ?_
  dsimp only [List.set]
  refine V.aload_n C dL_law_1598 rfl ?_
  refine V.zVin C ZE (cz_X10_thrown (x := nI 1) rfl) gLZ_thrown (n := 0) ⟨rfl, by decide, by decide, by decide +kernel⟩ rfl (q0 := 0) rfl rfl rfl ⟨Nat.le_of_ble_eq_true rfl, Nat.le_of_ble_eq_true rfl⟩ ⟨Nat.le_of_ble_eq_true rfl, Nat.le_of_ble_eq_true rfl⟩ (Nat.le_of_ble_eq_true rfl) rfl dL_law_1599 ?_
  refine V.iload C dL_law_1602 rfl ?_
  refine V.icmp_eq C (tgt := 1609) dL_law_1604 (by decide) (fun c1604 => ?_) (fun c1604 => ?_)
  rotate_left
  · exfalso; exact absurd c1604 (by decide +kernel)
  refine V.iload C dL_law_1609 rfl ?_
  refine V.if_ne C (tgt := 1626) dL_law_1611 (by decide) (fun c1611 => ?_) (fun c1611 => ?_)
  rotate_left
  · exfalso; exact absurd c1611 (by decide +kernel)
  refine V.goto C (tgt := 1755) dL_law_1626 (by decide) ?_
  exact law_tail C CXs kk (Nat.le_of_ble_eq_true rfl) (Nat.le_of_ble_eq_true rfl) (lsub_s rfl (lsub_n (lsub_n (lsub_n (lsub_s rfl (lsub_n (lsub_n (lsub_n (lsub_n lsub_e)))))))))
set_option maxRecDepth 100000 in
set_option maxHeartbeats 4000000 in
theorem law_25_ok {κ : VK} {l : Launch} {D : va_G} {nm : String} {cI cL cII cO : ClassId} {e0 o b : Nat} {h g : Nat → Nat} {xs : Nat → Int32} (hfl : l.stackTraces = false) (C : Cx κ l D code RL wsL_law 9 ret (TY cI cL cII cO) room_1 nm) (CXs : CxX κ b 5 xs) (ZE : EZ κ e0) (ZX9 : XZ κ TL) {a : Nat} (ha : a ≤ 9) (e1 : xs 1 = nI a) (kk : ∀ (w : va_W) (L : List (Option Value)), V κ 600000 7000000 w 1762 L [.int (nI 1)]) : V κ 100 2000 ((SW cI h jInit ++ [(o, .inl (cL, 1, .inr (.inl (fun _ => (0 : Int64)))))]) ++ (MF cI cII e0 g ((nI 0)))) 1573 [some (.ref b), some (.ref (h 0)), some (.ref (g 0)), some (.ref o), some (.int (nI 0)), none, none, none, none] [] := by
  refine V.aload_n C dL_law_1573 rfl ?_
  refine V.aload_n C dL_law_1574 rfl ?_
  refine V.iload C dL_law_1575 rfl ?_
  refine V.iconst C (v := nI 1) dL_law_1577 (by decide) ?_
  refine V.iadd C dL_law_1578 ?_
  refine V.topi (y := nI 1) (by decide +kernel) ?_
  refine V.sld C CXs (vp_in_nI (by decide) (by decide)) dL_law_1579 ?_
  refine V.topi (y := nI a) ((congrArg xs (nI_clamp (by decide))).trans e1) ?_
  refine V.aload_n C dL_law_1580 rfl ?_
  refine V.hS C ZX9 (X := (MF cI cII e0 g ((nI 0)))) (ct_L_nextIn_ok hfl rfl rfl ha) rfl gL_law_L_nextIn (n := 3) ⟨by decide, by decide, by decide +kernel⟩ rfl rfl ⟨Nat.le_of_ble_eq_true rfl, Nat.le_of_ble_eq_true rfl⟩ ⟨Nat.le_of_ble_eq_true rfl, Nat.le_of_ble_eq_true rfl⟩ (Nat.le_of_ble_eq_true rfl) rfl dL_law_1581 ?_
  refine V.topi (y := nI 0) rfl ?_
  refine V.istore C dL_law_1584 (by decide) rfl ?_
  dsimp only [List.set]
  refine V.aload_n C dL_law_1586 rfl ?_
  refine V.aload_n C dL_law_1587 rfl ?_
  refine V.iload C dL_law_1588 rfl ?_
  refine V.iconst C (v := nI 1) dL_law_1590 (by decide) ?_
  refine V.iadd C dL_law_1591 ?_
  refine V.topi (y := nI 1) (by decide +kernel) ?_
  refine V.sld C CXs (vp_in_nI (by decide) (by decide)) dL_law_1592 ?_
  refine V.topi (y := nI a) ((congrArg xs (nI_clamp (by decide))).trans e1) ?_
  refine V.swapw ?_
  refine V.zVfx C ZE (X := _) (cz_X10_nextIn_ok ha) rfl gLZ_nextIn (n := 1) ⟨rfl, by decide, by decide, by decide +kernel⟩ rfl (q0 := 0) rfl rfl rfl ⟨Nat.le_of_ble_eq_true rfl, Nat.le_of_ble_eq_true rfl⟩ ⟨Nat.le_of_ble_eq_true rfl, Nat.le_of_ble_eq_true rfl⟩ (Nat.le_of_ble_eq_true rfl) rfl dL_law_1593 (fun fs => ?_)
  refine V.istore C dL_law_1596 (by decide) rfl ?_
  dsimp only [List.set]
  refine V.aload_n C dL_law_1598 rfl ?_
  refine V.zVin C ZE (cz_X10_thrown (x := nI 0) rfl) gLZ_thrown (n := 0) ⟨rfl, by decide, by decide, by decide +kernel⟩ rfl (q0 := 0) rfl rfl rfl ⟨Nat.le_of_ble_eq_true rfl, Nat.le_of_ble_eq_true rfl⟩ ⟨Nat.le_of_ble_eq_true rfl, Nat.le_of_ble_eq_true rfl⟩ (Nat.le_of_ble_eq_true rfl) rfl dL_law_1599 ?_
  refine V.iload C dL_law_1602 rfl ?_
  refine V.icmp_eq C (tgt := 1609) dL_law_1604 (by decide) (fun c1604 => ?_) (fun c1604 => ?_)
  rotate_left
  · exfalso; exact absurd c1604 (by decide +kernel)
  refine V.iload C dL_law_1609 rfl ?_
  refine V.if_ne C (tgt := 1626) dL_law_1611 (by decide) (fun c1611 => ?_) (fun c1611 => ?_)
  · exfalso; exact absurd c1611 (by decide +kernel)
  refine V.aload_n C dL_law_1614 rfl ?_
  refine V.iconst C (v := nI 0) dL_law_1615 (by decide) ?_
  refine V.lald C (q0 := 28) (t0 := 1) rfl rfl rfl (by decide) (by decide) dL_law_1616 ?_
  refine V.topl (y := -1) (pk_uLs.trans (by decide +kernel)) ?_
  refine V.iload C dL_law_1617 rfl ?_
  refine V.i2l C dL_law_1619 ?_
  refine V.topl (y := -1) (by decide +kernel) ?_
  refine V.lcmp C dL_law_1620 ?_
  refine V.if_eq C (tgt := 1626) dL_law_1621 (by decide) (fun c1621 => ?_) (fun c1621 => ?_)
  rotate_left
  · exfalso; exact absurd c1621 (by decide +kernel)
  refine V.goto C (tgt := 1755) dL_law_1626 (by decide) ?_
  exact law_tail C CXs kk (Nat.le_of_ble_eq_true rfl) (Nat.le_of_ble_eq_true rfl) (lsub_s rfl (lsub_n (lsub_n (lsub_n (lsub_s rfl (lsub_n (lsub_n (lsub_n (lsub_n lsub_e)))))))))
set_option maxRecDepth 100000 in
set_option maxHeartbeats 4000000 in
theorem law_26_x {κ : VK} {l : Launch} {D : va_G} {nm : String} {cI cL cII cO : ClassId} {e0 o b : Nat} {h g : Nat → Nat} {xs : Nat → Int32} (hfl : l.stackTraces = false) (C : Cx κ l D code RL wsL_law 9 ret (TY cI cL cII cO) room_1 nm) (CXs : CxX κ b 5 xs) (ZE : EZ κ e0) (ZX9 : XZ κ TL) (hx : xs 1 < nI 0 ∨ nI 9 < xs 1) (kk : ∀ (w : va_W) (L : List (Option Value)), V κ 600000 7000000 w 1762 L [.int (nI 1)]) : V κ 100 2000 ((SW cI h jInit ++ [(o, .inl (cL, 1, .inr (.inl (fun _ => (0 : Int64)))))]) ++ (MF cI cII e0 g ((nI 0)))) 1629 [some (.ref b), some (.ref (h 0)), some (.ref (g 0)), some (.ref o), some (.int (nI 0)), none, none, none, none] [] := by
  refine V.aload_n C dL_law_1629 rfl ?_
  refine V.aload_n C dL_law_1630 rfl ?_
  refine V.iload C dL_law_1631 rfl ?_
  refine V.iconst C (v := nI 1) dL_law_1633 (by decide) ?_
  refine V.iadd C dL_law_1634 ?_
  refine V.topi (y := nI 1) (by decide +kernel) ?_
  refine V.sld C CXs (vp_in_nI (by decide) (by decide)) dL_law_1635 ?_
  refine V.topi (y := xs 1) ((congrArg xs (nI_clamp (by decide)))) ?_
  refine V.aload_n C dL_law_1636 rfl ?_
  refine V.hS C ZX9 (X := (MF cI cII e0 g ((nI 0)))) (ct_L_offWith_x hfl rfl rfl hx) rfl gL_law_L_offWith (n := 3) ⟨by decide, by decide, by decide +kernel⟩ rfl rfl ⟨Nat.le_of_ble_eq_true rfl, Nat.le_of_ble_eq_true rfl⟩ ⟨Nat.le_of_ble_eq_true rfl, Nat.le_of_ble_eq_true rfl⟩ (Nat.le_of_ble_eq_true rfl) rfl dL_law_1637 ?_
  refine V.topi (y := nI 1) rfl ?_
  refine V.istore C dL_law_1640 (by decide) rfl ?_
  dsimp only [List.set]
  refine V.aload_n C dL_law_1642 rfl ?_
  refine V.aload_n C dL_law_1643 rfl ?_
  refine V.iload C dL_law_1644 rfl ?_
  refine V.iconst C (v := nI 1) dL_law_1646 (by decide) ?_
  refine V.iadd C dL_law_1647 ?_
  refine V.topi (y := nI 1) (by decide +kernel) ?_
  refine V.sld C CXs (vp_in_nI (by decide) (by decide)) dL_law_1648 ?_
  refine V.topi (y := xs 1) ((congrArg xs (nI_clamp (by decide)))) ?_
  refine V.swapw ?_
  refine V.zVfx C ZE (X := _) (cz_X10_offWith_x hx) rfl gLZ_offWith (n := 1) ⟨rfl, by decide, by decide, by decide +kernel⟩ rfl (q0 := 0) rfl rfl rfl ⟨Nat.le_of_ble_eq_true rfl, Nat.le_of_ble_eq_true rfl⟩ ⟨Nat.le_of_ble_eq_true rfl, Nat.le_of_ble_eq_true rfl⟩ (Nat.le_of_ble_eq_true rfl) rfl dL_law_1649 (fun fs => ?_)
  refine V.istore C dL_law_1652 (by decide) rfl ?_
  dsimp only [List.set]
  refine V.aload_n C dL_law_1654 rfl ?_
  refine V.zVin C ZE (cz_X10_thrown (x := nI 1) rfl) gLZ_thrown (n := 0) ⟨rfl, by decide, by decide, by decide +kernel⟩ rfl (q0 := 0) rfl rfl rfl ⟨Nat.le_of_ble_eq_true rfl, Nat.le_of_ble_eq_true rfl⟩ ⟨Nat.le_of_ble_eq_true rfl, Nat.le_of_ble_eq_true rfl⟩ (Nat.le_of_ble_eq_true rfl) rfl dL_law_1655 ?_
  refine V.iload C dL_law_1658 rfl ?_
  refine V.icmp_eq C (tgt := 1665) dL_law_1660 (by decide) (fun c1660 => ?_) (fun c1660 => ?_)
  rotate_left
  · exfalso; exact absurd c1660 (by decide +kernel)
  refine V.iload C dL_law_1665 rfl ?_
  refine V.if_ne C (tgt := 1682) dL_law_1667 (by decide) (fun c1667 => ?_) (fun c1667 => ?_)
  rotate_left
  · exfalso; exact absurd c1667 (by decide +kernel)
  refine V.goto C (tgt := 1755) dL_law_1682 (by decide) ?_
  exact law_tail C CXs kk (Nat.le_of_ble_eq_true rfl) (Nat.le_of_ble_eq_true rfl) (lsub_s rfl (lsub_n (lsub_n (lsub_n (lsub_s rfl (lsub_n (lsub_n (lsub_n (lsub_n lsub_e)))))))))
set_option maxRecDepth 100000 in
set_option maxHeartbeats 4000000 in
theorem law_26_ok {κ : VK} {l : Launch} {D : va_G} {nm : String} {cI cL cII cO : ClassId} {e0 o b : Nat} {h g : Nat → Nat} {xs : Nat → Int32} (hfl : l.stackTraces = false) (C : Cx κ l D code RL wsL_law 9 ret (TY cI cL cII cO) room_1 nm) (CXs : CxX κ b 5 xs) (ZE : EZ κ e0) (ZX9 : XZ κ TL) {a : Nat} (ha : a ≤ 9) (e1 : xs 1 = nI a) (kk : ∀ (w : va_W) (L : List (Option Value)), V κ 600000 7000000 w 1762 L [.int (nI 1)]) : V κ 100 2000 ((SW cI h jInit ++ [(o, .inl (cL, 1, .inr (.inl (fun _ => (0 : Int64)))))]) ++ (MF cI cII e0 g ((nI 0)))) 1629 [some (.ref b), some (.ref (h 0)), some (.ref (g 0)), some (.ref o), some (.int (nI 0)), none, none, none, none] [] := by
  refine V.aload_n C dL_law_1629 rfl ?_
  refine V.aload_n C dL_law_1630 rfl ?_
  refine V.iload C dL_law_1631 rfl ?_
  refine V.iconst C (v := nI 1) dL_law_1633 (by decide) ?_
  refine V.iadd C dL_law_1634 ?_
  refine V.topi (y := nI 1) (by decide +kernel) ?_
  refine V.sld C CXs (vp_in_nI (by decide) (by decide)) dL_law_1635 ?_
  refine V.topi (y := nI a) ((congrArg xs (nI_clamp (by decide))).trans e1) ?_
  refine V.aload_n C dL_law_1636 rfl ?_
  refine V.hS C ZX9 (X := (MF cI cII e0 g ((nI 0)))) (ct_L_offWith_ok hfl rfl rfl ha) rfl gL_law_L_offWith (n := 3) ⟨by decide, by decide, by decide +kernel⟩ rfl rfl ⟨Nat.le_of_ble_eq_true rfl, Nat.le_of_ble_eq_true rfl⟩ ⟨Nat.le_of_ble_eq_true rfl, Nat.le_of_ble_eq_true rfl⟩ (Nat.le_of_ble_eq_true rfl) rfl dL_law_1637 ?_
  refine V.topi (y := nI 0) rfl ?_
  refine V.istore C dL_law_1640 (by decide) rfl ?_
  dsimp only [List.set]
  refine V.aload_n C dL_law_1642 rfl ?_
  refine V.aload_n C dL_law_1643 rfl ?_
  refine V.iload C dL_law_1644 rfl ?_
  refine V.iconst C (v := nI 1) dL_law_1646 (by decide) ?_
  refine V.iadd C dL_law_1647 ?_
  refine V.topi (y := nI 1) (by decide +kernel) ?_
  refine V.sld C CXs (vp_in_nI (by decide) (by decide)) dL_law_1648 ?_
  refine V.topi (y := nI a) ((congrArg xs (nI_clamp (by decide))).trans e1) ?_
  refine V.swapw ?_
  refine V.zVfx C ZE (X := _) (cz_X10_offWith_ok ha) rfl gLZ_offWith (n := 1) ⟨rfl, by decide, by decide, by decide +kernel⟩ rfl (q0 := 0) rfl rfl rfl ⟨Nat.le_of_ble_eq_true rfl, Nat.le_of_ble_eq_true rfl⟩ ⟨Nat.le_of_ble_eq_true rfl, Nat.le_of_ble_eq_true rfl⟩ (Nat.le_of_ble_eq_true rfl) rfl dL_law_1649 (fun fs => ?_)
  refine V.istore C dL_law_1652 (by decide) rfl ?_
  dsimp only [List.set]
  refine V.aload_n C dL_law_1654 rfl ?_
  refine V.zVin C ZE (cz_X10_thrown (x := nI 0) rfl) gLZ_thrown (n := 0) ⟨rfl, by decide, by decide, by decide +kernel⟩ rfl (q0 := 0) rfl rfl rfl ⟨Nat.le_of_ble_eq_true rfl, Nat.le_of_ble_eq_true rfl⟩ ⟨Nat.le_of_ble_eq_true rfl, Nat.le_of_ble_eq_true rfl⟩ (Nat.le_of_ble_eq_true rfl) rfl dL_law_1655 ?_
  refine V.iload C dL_law_1658 rfl ?_
  refine V.icmp_eq C (tgt := 1665) dL_law_1660 (by decide) (fun c1660 => ?_) (fun c1660 => ?_)
  rotate_left
  · exfalso; exact absurd c1660 (by decide +kernel)
  refine V.iload C dL_law_1665 rfl ?_
  refine V.if_ne C (tgt := 1682) dL_law_1667 (by decide) (fun c1667 => ?_) (fun c1667 => ?_)
  · exfalso; exact absurd c1667 (by decide +kernel)
  refine V.aload_n C dL_law_1670 rfl ?_
  refine V.iconst C (v := nI 0) dL_law_1671 (by decide) ?_
  refine V.lald C (q0 := 28) (t0 := 1) rfl rfl rfl (by decide) (by decide) dL_law_1672 ?_
  refine V.topl (y := 0) (pk_uLs.trans (by decide +kernel)) ?_
  refine V.iload C dL_law_1673 rfl ?_
  refine V.i2l C dL_law_1675 ?_
  refine V.topl (y := 0) (by decide +kernel) ?_
  refine V.lcmp C dL_law_1676 ?_
  refine V.if_eq C (tgt := 1682) dL_law_1677 (by decide) (fun c1677 => ?_) (fun c1677 => ?_)
  rotate_left
  · exfalso; exact absurd c1677 (by decide +kernel)
  refine V.goto C (tgt := 1755) dL_law_1682 (by decide) ?_
  exact law_tail C CXs kk (Nat.le_of_ble_eq_true rfl) (Nat.le_of_ble_eq_true rfl) (lsub_s rfl (lsub_n (lsub_n (lsub_n (lsub_s rfl (lsub_n (lsub_n (lsub_n (lsub_n lsub_e)))))))))
set_option maxRecDepth 100000 in
set_option maxHeartbeats 4000000 in
theorem law_18 {κ : VK} {l : Launch} {D : va_G} {nm : String} {cI cL cII cO : ClassId} {e0 o b : Nat} {h g : Nat → Nat} {xs : Nat → Int32} (hfl : l.stackTraces = false) (C : Cx κ l D code RL wsL_law 9 ret (TY cI cL cII cO) room_1 nm) (CXs : CxX κ b 5 xs) (ZE : EZ κ e0) (ZX9 : XZ κ TL)  (kk : ∀ (w : va_W) (L : List (Option Value)), V κ 600000 7000000 w 1762 L [.int (nI 1)]) : V κ 100 2000 ((SW cI h jInit ++ [(o, .inl (cL, 1, .inr (.inl (fun _ => (0 : Int64)))))]) ++ (MF cI cII e0 g ((nI 0)))) 1203 [some (.ref b), some (.ref (h 0)), some (.ref (g 0)), some (.ref o), some (.int (nI 0)), none, none, none, none] [] := by
  refine V.aload_n C dL_law_1203 rfl ?_
  refine V.world (w' := SW cI h jInit ++ ([(o, .inl (cL, 1, .inr (.inl (fun _ => (0 : Int64)))))] ++ (MF cI cII e0 g ((nI 0))))) rfl ?_
  refine V.callVXi C (X := _) (ct_X6_off (N := 0) rfl rfl (by decide) (fun p hp => absurd hp (Nat.not_lt_zero p))) rfl gL_law_X6_off (n := 0) ⟨rfl, by decide, by decide, by decide +kernel⟩ rfl (q0 := 0) rfl rfl rfl ⟨Nat.le_of_ble_eq_true rfl, Nat.le_of_ble_eq_true rfl⟩ ⟨rfl, rfl, Nat.le_of_ble_eq_true rfl, Nat.le_of_ble_eq_true rfl⟩ (Nat.le_of_ble_eq_true rfl) rfl dL_law_1204 ?_
  refine V.topi (y := nI 0) (by decide +kernel) ?_
  refine V.world (w' := (SW cI h jInit ++ [(o, .inl (cL, 1, .inr (.inl (fun _ => (0 : Int64)))))]) ++ (MF cI cII e0 g ((nI 0)))) rfl ?_
  refine V.aload_n C dL_law_1207 rfl ?_
  refine V.swapw ?_
  refine V.zVfx C ZE (X := _) (cz_X10_off) rfl gLZ_off (n := 0) ⟨rfl, by decide, by decide, by decide +kernel⟩ rfl (q0 := 0) rfl rfl rfl ⟨Nat.le_of_ble_eq_true rfl, Nat.le_of_ble_eq_true rfl⟩ ⟨Nat.le_of_ble_eq_true rfl, Nat.le_of_ble_eq_true rfl⟩ (Nat.le_of_ble_eq_true rfl) rfl dL_law_1208 (fun fs => ?_)
  refine V.icmp_eq C (tgt := 1755) dL_law_1211 (by decide) (fun c1211 => ?_) (fun c1211 => ?_)
  rotate_left
  · exfalso; exact absurd c1211 (by decide +kernel)
  exact law_tail C CXs kk (Nat.le_of_ble_eq_true rfl) (Nat.le_of_ble_eq_true rfl) (lsub_s rfl (lsub_n (lsub_n (lsub_n (lsub_s rfl (lsub_n (lsub_n (lsub_n (lsub_n lsub_e)))))))))
set_option maxRecDepth 100000 in
set_option maxHeartbeats 4000000 in
theorem law_19_x {κ : VK} {l : Launch} {D : va_G} {nm : String} {cI cL cII cO : ClassId} {e0 o b : Nat} {h g : Nat → Nat} {xs : Nat → Int32} (hfl : l.stackTraces = false) (C : Cx κ l D code RL wsL_law 9 ret (TY cI cL cII cO) room_1 nm) (CXs : CxX κ b 5 xs) (ZE : EZ κ e0) (ZX9 : XZ κ TL)  (kk : ∀ (w : va_W) (L : List (Option Value)), V κ 600000 7000000 w 1762 L [.int (nI 1)]) : V κ 100 2000 ((SW cI h jInit ++ [(o, .inl (cL, 1, .inr (.inl (fun _ => (0 : Int64)))))]) ++ (MF cI cII e0 g ((nI 0)))) 1216 [some (.ref b), some (.ref (h 0)), some (.ref (g 0)), some (.ref o), some (.int (nI 0)), none, none, none, none] [] := by
  refine V.aload_n C dL_law_1216 rfl ?_
  refine V.aload_n C dL_law_1217 rfl ?_
  refine V.iload C dL_law_1218 rfl ?_
  refine V.iconst C (v := nI 1) dL_law_1220 (by decide) ?_
  refine V.iadd C dL_law_1221 ?_
  refine V.topi (y := nI 1) (by decide +kernel) ?_
  refine V.sld C CXs (vp_in_nI (by decide) (by decide)) dL_law_1222 ?_
  refine V.topi (y := xs 1) ((congrArg xs (nI_clamp (by decide)))) ?_
  refine V.aload_n C dL_law_1223 rfl ?_
  refine V.iload C dL_law_1224 rfl ?_
  refine V.iconst C (v := nI 2) dL_law_1226 (by decide) ?_
  refine V.iadd C dL_law_1227 ?_
  refine V.topi (y := nI 2) (by decide +kernel) ?_
  refine V.sld C CXs (vp_in_nI (by decide) (by decide)) dL_law_1228 ?_
  refine V.topi (y := xs 2) ((congrArg xs (nI_clamp (by decide)))) ?_
  refine V.aload_n C dL_law_1229 rfl ?_
  refine V.iload C dL_law_1230 rfl ?_
  refine V.iconst C (v := nI 3) dL_law_1232 (by decide) ?_
  refine V.iadd C dL_law_1233 ?_
  refine V.topi (y := nI 3) (by decide +kernel) ?_
  refine V.sld C CXs (vp_in_nI (by decide) (by decide)) dL_law_1234 ?_
  refine V.topi (y := xs 3) ((congrArg xs (nI_clamp (by decide)))) ?_
  refine V.aload_n C dL_law_1235 rfl ?_
  refine V.hS C ZX9 (X := (MF cI cII e0 g ((nI 0)))) (ct_L_share_x hfl rfl rfl) rfl gL_law_L_share (n := 5) ⟨by decide, by decide, by decide +kernel⟩ rfl rfl ⟨Nat.le_of_ble_eq_true rfl, Nat.le_of_ble_eq_true rfl⟩ ⟨Nat.le_of_ble_eq_true rfl, Nat.le_of_ble_eq_true rfl⟩ (Nat.le_of_ble_eq_true rfl) rfl dL_law_1236 ?_
  refine V.topi (y := nI 1) rfl ?_
  refine V.istore C dL_law_1239 (by decide) rfl ?_
  dsimp only [List.set]
  refine V.aload_n C dL_law_1241 rfl ?_
  refine V.aload_n C dL_law_1242 rfl ?_
  refine V.iload C dL_law_1243 rfl ?_
  refine V.iconst C (v := nI 1) dL_law_1245 (by decide) ?_
  refine V.iadd C dL_law_1246 ?_
  refine V.topi (y := nI 1) (by decide +kernel) ?_
  refine V.sld C CXs (vp_in_nI (by decide) (by decide)) dL_law_1247 ?_
  refine V.topi (y := xs 1) ((congrArg xs (nI_clamp (by decide)))) ?_
  refine V.aload_n C dL_law_1248 rfl ?_
  refine V.iload C dL_law_1249 rfl ?_
  refine V.iconst C (v := nI 2) dL_law_1251 (by decide) ?_
  refine V.iadd C dL_law_1252 ?_
  refine V.topi (y := nI 2) (by decide +kernel) ?_
  refine V.sld C CXs (vp_in_nI (by decide) (by decide)) dL_law_1253 ?_
  refine V.topi (y := xs 2) ((congrArg xs (nI_clamp (by decide)))) ?_
  refine V.aload_n C dL_law_1254 rfl ?_
  refine V.iload C dL_law_1255 rfl ?_
  refine V.iconst C (v := nI 3) dL_law_1257 (by decide) ?_
  refine V.iadd C dL_law_1258 ?_
  refine V.topi (y := nI 3) (by decide +kernel) ?_
  refine V.sld C CXs (vp_in_nI (by decide) (by decide)) dL_law_1259 ?_
  refine V.topi (y := xs 3) ((congrArg xs (nI_clamp (by decide)))) ?_
  refine V.swapw ?_
  refine V.zVfx C ZE (X := _) (cz_X10_share_x) rfl gLZ_share (n := 3) ⟨rfl, by decide, by decide, by decide +kernel⟩ rfl (q0 := 0) rfl rfl rfl ⟨Nat.le_of_ble_eq_true rfl, Nat.le_of_ble_eq_true rfl⟩ ⟨Nat.le_of_ble_eq_true rfl, Nat.le_of_ble_eq_true rfl⟩ (Nat.le_of_ble_eq_true rfl) rfl dL_law_1260 (fun fs => ?_)
  refine V.istore C dL_law_1263 (by decide) rfl ?_
  dsimp only [List.set]
  refine V.aload_n C dL_law_1265 rfl ?_
  refine V.zVin C ZE (cz_X10_thrown (x := nI 1) rfl) gLZ_thrown (n := 0) ⟨rfl, by decide, by decide, by decide +kernel⟩ rfl (q0 := 0) rfl rfl rfl ⟨Nat.le_of_ble_eq_true rfl, Nat.le_of_ble_eq_true rfl⟩ ⟨Nat.le_of_ble_eq_true rfl, Nat.le_of_ble_eq_true rfl⟩ (Nat.le_of_ble_eq_true rfl) rfl dL_law_1266 ?_
  refine V.iload C dL_law_1269 rfl ?_
  refine V.icmp_eq C (tgt := 1276) dL_law_1271 (by decide) (fun c1271 => ?_) (fun c1271 => ?_)
  rotate_left
  · exfalso; exact absurd c1271 (by decide +kernel)
  refine V.iload C dL_law_1276 rfl ?_
  refine V.if_ne C (tgt := 1293) dL_law_1278 (by decide) (fun c1278 => ?_) (fun c1278 => ?_)
  rotate_left
  · exfalso; exact absurd c1278 (by decide +kernel)
  refine V.goto C (tgt := 1755) dL_law_1293 (by decide) ?_
  exact law_tail C CXs kk (Nat.le_of_ble_eq_true rfl) (Nat.le_of_ble_eq_true rfl) (lsub_s rfl (lsub_n (lsub_n (lsub_n (lsub_s rfl (lsub_n (lsub_n (lsub_n (lsub_n lsub_e)))))))))
set_option maxRecDepth 100000 in
set_option maxHeartbeats 4000000 in
theorem law_20_x {κ : VK} {l : Launch} {D : va_G} {nm : String} {cI cL cII cO : ClassId} {e0 o b : Nat} {h g : Nat → Nat} {xs : Nat → Int32} (hfl : l.stackTraces = false) (C : Cx κ l D code RL wsL_law 9 ret (TY cI cL cII cO) room_1 nm) (CXs : CxX κ b 5 xs) (ZE : EZ κ e0) (ZX9 : XZ κ TL)  (kk : ∀ (w : va_W) (L : List (Option Value)), V κ 600000 7000000 w 1762 L [.int (nI 1)]) : V κ 100 2000 ((SW cI h jInit ++ [(o, .inl (cL, 1, .inr (.inl (fun _ => (0 : Int64)))))]) ++ (MF cI cII e0 g ((nI 0)))) 1296 [some (.ref b), some (.ref (h 0)), some (.ref (g 0)), some (.ref o), some (.int (nI 0)), none, none, none, none] [] := by
  refine V.aload_n C dL_law_1296 rfl ?_
  refine V.aload_n C dL_law_1297 rfl ?_
  refine V.iload C dL_law_1298 rfl ?_
  refine V.iconst C (v := nI 1) dL_law_1300 (by decide) ?_
  refine V.iadd C dL_law_1301 ?_
  refine V.topi (y := nI 1) (by decide +kernel) ?_
  refine V.sld C CXs (vp_in_nI (by decide) (by decide)) dL_law_1302 ?_
  refine V.topi (y := xs 1) ((congrArg xs (nI_clamp (by decide)))) ?_
  refine V.aload_n C dL_law_1303 rfl ?_
  refine V.iload C dL_law_1304 rfl ?_
  refine V.iconst C (v := nI 2) dL_law_1306 (by decide) ?_
  refine V.iadd C dL_law_1307 ?_
  refine V.topi (y := nI 2) (by decide +kernel) ?_
  refine V.sld C CXs (vp_in_nI (by decide) (by decide)) dL_law_1308 ?_
  refine V.topi (y := xs 2) ((congrArg xs (nI_clamp (by decide)))) ?_
  refine V.aload_n C dL_law_1309 rfl ?_
  refine V.iload C dL_law_1310 rfl ?_
  refine V.iconst C (v := nI 3) dL_law_1312 (by decide) ?_
  refine V.iadd C dL_law_1313 ?_
  refine V.topi (y := nI 3) (by decide +kernel) ?_
  refine V.sld C CXs (vp_in_nI (by decide) (by decide)) dL_law_1314 ?_
  refine V.topi (y := xs 3) ((congrArg xs (nI_clamp (by decide)))) ?_
  refine V.aload_n C dL_law_1315 rfl ?_
  refine V.iload C dL_law_1316 rfl ?_
  refine V.iconst C (v := nI 4) dL_law_1318 (by decide) ?_
  refine V.iadd C dL_law_1319 ?_
  refine V.topi (y := nI 4) (by decide +kernel) ?_
  refine V.sld C CXs (vp_in_nI (by decide) (by decide)) dL_law_1320 ?_
  refine V.topi (y := xs 4) ((congrArg xs (nI_clamp (by decide)))) ?_
  refine V.aload_n C dL_law_1321 rfl ?_
  refine V.hS C ZX9 (X := (MF cI cII e0 g ((nI 0)))) (ct_L_isMarked_x hfl rfl rfl) rfl gL_law_L_isMarked (n := 6) ⟨by decide, by decide, by decide +kernel⟩ rfl rfl ⟨Nat.le_of_ble_eq_true rfl, Nat.le_of_ble_eq_true rfl⟩ ⟨Nat.le_of_ble_eq_true rfl, Nat.le_of_ble_eq_true rfl⟩ (Nat.le_of_ble_eq_true rfl) rfl dL_law_1322 ?_
  refine V.topi (y := nI 1) rfl ?_
  refine V.istore C dL_law_1325 (by decide) rfl ?_
  dsimp only [List.set]
  refine V.aload_n C dL_law_1327 rfl ?_
  refine V.aload_n C dL_law_1328 rfl ?_
  refine V.iload C dL_law_1329 rfl ?_
  refine V.iconst C (v := nI 1) dL_law_1331 (by decide) ?_
  refine V.iadd C dL_law_1332 ?_
  refine V.topi (y := nI 1) (by decide +kernel) ?_
  refine V.sld C CXs (vp_in_nI (by decide) (by decide)) dL_law_1333 ?_
  refine V.topi (y := xs 1) ((congrArg xs (nI_clamp (by decide)))) ?_
  refine V.aload_n C dL_law_1334 rfl ?_
  refine V.iload C dL_law_1335 rfl ?_
  refine V.iconst C (v := nI 2) dL_law_1337 (by decide) ?_
  refine V.iadd C dL_law_1338 ?_
  refine V.topi (y := nI 2) (by decide +kernel) ?_
  refine V.sld C CXs (vp_in_nI (by decide) (by decide)) dL_law_1339 ?_
  refine V.topi (y := xs 2) ((congrArg xs (nI_clamp (by decide)))) ?_
  refine V.aload_n C dL_law_1340 rfl ?_
  refine V.iload C dL_law_1341 rfl ?_
  refine V.iconst C (v := nI 3) dL_law_1343 (by decide) ?_
  refine V.iadd C dL_law_1344 ?_
  refine V.topi (y := nI 3) (by decide +kernel) ?_
  refine V.sld C CXs (vp_in_nI (by decide) (by decide)) dL_law_1345 ?_
  refine V.topi (y := xs 3) ((congrArg xs (nI_clamp (by decide)))) ?_
  refine V.aload_n C dL_law_1346 rfl ?_
  refine V.iload C dL_law_1347 rfl ?_
  refine V.iconst C (v := nI 4) dL_law_1349 (by decide) ?_
  refine V.iadd C dL_law_1350 ?_
  refine V.topi (y := nI 4) (by decide +kernel) ?_
  refine V.sld C CXs (vp_in_nI (by decide) (by decide)) dL_law_1351 ?_
  refine V.topi (y := xs 4) ((congrArg xs (nI_clamp (by decide)))) ?_
  refine V.swapw ?_
  refine V.zVfx C ZE (X := _) (cz_X10_isMarked_x) rfl gLZ_isMarked (n := 4) ⟨rfl, by decide, by decide, by decide +kernel⟩ rfl (q0 := 0) rfl rfl rfl ⟨Nat.le_of_ble_eq_true rfl, Nat.le_of_ble_eq_true rfl⟩ ⟨Nat.le_of_ble_eq_true rfl, Nat.le_of_ble_eq_true rfl⟩ (Nat.le_of_ble_eq_true rfl) rfl dL_law_1352 (fun fs => ?_)
  refine V.istore C dL_law_1355 (by decide) rfl ?_
  dsimp only [List.set]
  refine V.aload_n C dL_law_1357 rfl ?_
  refine V.zVin C ZE (cz_X10_thrown (x := nI 1) rfl) gLZ_thrown (n := 0) ⟨rfl, by decide, by decide, by decide +kernel⟩ rfl (q0 := 0) rfl rfl rfl ⟨Nat.le_of_ble_eq_true rfl, Nat.le_of_ble_eq_true rfl⟩ ⟨Nat.le_of_ble_eq_true rfl, Nat.le_of_ble_eq_true rfl⟩ (Nat.le_of_ble_eq_true rfl) rfl dL_law_1358 ?_
  refine V.iload C dL_law_1361 rfl ?_
  refine V.icmp_eq C (tgt := 1368) dL_law_1363 (by decide) (fun c1363 => ?_) (fun c1363 => ?_)
  rotate_left
  · exfalso; exact absurd c1363 (by decide +kernel)
  refine V.iload C dL_law_1368 rfl ?_
  refine V.if_ne C (tgt := 1392) dL_law_1370 (by decide) (fun c1370 => ?_) (fun c1370 => ?_)
  rotate_left
  · exfalso; exact absurd c1370 (by decide +kernel)
  refine V.goto C (tgt := 1755) dL_law_1392 (by decide) ?_
  exact law_tail C CXs kk (Nat.le_of_ble_eq_true rfl) (Nat.le_of_ble_eq_true rfl) (lsub_s rfl (lsub_n (lsub_n (lsub_n (lsub_s rfl (lsub_n (lsub_n (lsub_n (lsub_n lsub_e)))))))))
set_option maxRecDepth 100000 in
set_option maxHeartbeats 4000000 in
theorem law_21 {κ : VK} {l : Launch} {D : va_G} {nm : String} {cI cL cII cO : ClassId} {e0 o b : Nat} {h g : Nat → Nat} {xs : Nat → Int32} (hfl : l.stackTraces = false) (C : Cx κ l D code RL wsL_law 9 ret (TY cI cL cII cO) room_1 nm) (CXs : CxX κ b 5 xs) (ZE : EZ κ e0) (ZX9 : XZ κ TL)  (kk : ∀ (w : va_W) (L : List (Option Value)), V κ 600000 7000000 w 1762 L [.int (nI 1)]) : V κ 100 2000 ((SW cI h jInit ++ [(o, .inl (cL, 1, .inr (.inl (fun _ => (0 : Int64)))))]) ++ (MF cI cII e0 g ((nI 0)))) 1395 [some (.ref b), some (.ref (h 0)), some (.ref (g 0)), some (.ref o), some (.int (nI 0)), none, none, none, none] [] := by
  refine V.aload_n C dL_law_1395 rfl ?_
  refine V.aload_n C dL_law_1396 rfl ?_
  refine V.hS C ZX9 (X := (MF cI cII e0 g ((nI 0)))) (ct_L_hold_ok hfl rfl rfl) rfl gL_law_L_hold (n := 2) ⟨by decide, by decide, by decide +kernel⟩ rfl rfl ⟨Nat.le_of_ble_eq_true rfl, Nat.le_of_ble_eq_true rfl⟩ ⟨Nat.le_of_ble_eq_true rfl, Nat.le_of_ble_eq_true rfl⟩ (Nat.le_of_ble_eq_true rfl) rfl dL_law_1397 ?_
  refine V.topi (y := nI 0) rfl ?_
  refine V.istore C dL_law_1400 (by decide) rfl ?_
  dsimp only [List.set]
  refine V.aload_n C dL_law_1402 rfl ?_
  refine V.swapw ?_
  refine V.zVfx C ZE (X := _) (cz_X10_hold_ok) rfl gLZ_hold (n := 0) ⟨rfl, by decide, by decide, by decide +kernel⟩ rfl (q0 := 0) rfl rfl rfl ⟨Nat.le_of_ble_eq_true rfl, Nat.le_of_ble_eq_true rfl⟩ ⟨Nat.le_of_ble_eq_true rfl, Nat.le_of_ble_eq_true rfl⟩ (Nat.le_of_ble_eq_true rfl) rfl dL_law_1403 (fun fs => ?_)
  refine V.istore C dL_law_1406 (by decide) rfl ?_
  dsimp only [List.set]
  refine V.aload_n C dL_law_1408 rfl ?_
  refine V.zVin C ZE (cz_X10_thrown (x := nI 0) rfl) gLZ_thrown (n := 0) ⟨rfl, by decide, by decide, by decide +kernel⟩ rfl (q0 := 0) rfl rfl rfl ⟨Nat.le_of_ble_eq_true rfl, Nat.le_of_ble_eq_true rfl⟩ ⟨Nat.le_of_ble_eq_true rfl, Nat.le_of_ble_eq_true rfl⟩ (Nat.le_of_ble_eq_true rfl) rfl dL_law_1409 ?_
  refine V.iload C dL_law_1412 rfl ?_
  refine V.icmp_eq C (tgt := 1419) dL_law_1414 (by decide) (fun c1414 => ?_) (fun c1414 => ?_)
  rotate_left
  · exfalso; exact absurd c1414 (by decide +kernel)
  refine V.iload C dL_law_1419 rfl ?_
  refine V.if_ne C (tgt := 1436) dL_law_1421 (by decide) (fun c1421 => ?_) (fun c1421 => ?_)
  · exfalso; exact absurd c1421 (by decide +kernel)
  refine V.aload_n C dL_law_1424 rfl ?_
  refine V.iconst C (v := nI 0) dL_law_1425 (by decide) ?_
  refine V.lald C (q0 := 28) (t0 := 1) rfl rfl rfl (by decide) (by decide) dL_law_1426 ?_
  refine V.topl (y := 0) (pk_uLs.trans (by decide +kernel)) ?_
  refine V.iload C dL_law_1427 rfl ?_
  refine V.i2l C dL_law_1429 ?_
  refine V.topl (y := 0) (by decide +kernel) ?_
  refine V.lcmp C dL_law_1430 ?_
  refine V.if_eq C (tgt := 1436) dL_law_1431 (by decide) (fun c1431 => ?_) (fun c1431 => ?_)
  rotate_left
  · exfalso; exact absurd c1431 (by decide +kernel)
  refine V.goto C (tgt := 1755) dL_law_1436 (by decide) ?_
  exact law_tail C CXs kk (Nat.le_of_ble_eq_true rfl) (Nat.le_of_ble_eq_true rfl) (lsub_s rfl (lsub_n (lsub_n (lsub_n (lsub_s rfl (lsub_n (lsub_n (lsub_n (lsub_n lsub_e)))))))))
set_option maxRecDepth 100000 in
set_option maxHeartbeats 4000000 in
theorem law_22_x {κ : VK} {l : Launch} {D : va_G} {nm : String} {cI cL cII cO : ClassId} {e0 o b : Nat} {h g : Nat → Nat} {xs : Nat → Int32} (hfl : l.stackTraces = false) (C : Cx κ l D code RL wsL_law 9 ret (TY cI cL cII cO) room_1 nm) (CXs : CxX κ b 5 xs) (ZE : EZ κ e0) (ZX9 : XZ κ TL)  (kk : ∀ (w : va_W) (L : List (Option Value)), V κ 600000 7000000 w 1762 L [.int (nI 1)]) : V κ 100 2000 ((SW cI h jInit ++ [(o, .inl (cL, 1, .inr (.inl (fun _ => (0 : Int64)))))]) ++ (MF cI cII e0 g ((nI 0)))) 1439 [some (.ref b), some (.ref (h 0)), some (.ref (g 0)), some (.ref o), some (.int (nI 0)), none, none, none, none] [] := by
  refine V.aload_n C dL_law_1439 rfl ?_
  refine V.aload_n C dL_law_1440 rfl ?_
  refine V.iload C dL_law_1441 rfl ?_
  refine V.iconst C (v := nI 1) dL_law_1443 (by decide) ?_
  refine V.iadd C dL_law_1444 ?_
  refine V.topi (y := nI 1) (by decide +kernel) ?_
  refine V.sld C CXs (vp_in_nI (by decide) (by decide)) dL_law_1445 ?_
  refine V.topi (y := xs 1) ((congrArg xs (nI_clamp (by decide)))) ?_
  refine V.aload_n C dL_law_1446 rfl ?_
  refine V.iload C dL_law_1447 rfl ?_
  refine V.iconst C (v := nI 2) dL_law_1449 (by decide) ?_
  refine V.iadd C dL_law_1450 ?_
  refine V.topi (y := nI 2) (by decide +kernel) ?_
  refine V.sld C CXs (vp_in_nI (by decide) (by decide)) dL_law_1451 ?_
  refine V.topi (y := xs 2) ((congrArg xs (nI_clamp (by decide)))) ?_
  refine V.aload_n C dL_law_1452 rfl ?_
  refine V.iload C dL_law_1453 rfl ?_
  refine V.iconst C (v := nI 3) dL_law_1455 (by decide) ?_
  refine V.iadd C dL_law_1456 ?_
  refine V.topi (y := nI 3) (by decide +kernel) ?_
  refine V.sld C CXs (vp_in_nI (by decide) (by decide)) dL_law_1457 ?_
  refine V.topi (y := xs 3) ((congrArg xs (nI_clamp (by decide)))) ?_
  refine V.aload_n C dL_law_1458 rfl ?_
  refine V.hS C ZX9 (X := (MF cI cII e0 g ((nI 0)))) (ct_L_held_x hfl rfl rfl) rfl gL_law_L_held (n := 5) ⟨by decide, by decide, by decide +kernel⟩ rfl rfl ⟨Nat.le_of_ble_eq_true rfl, Nat.le_of_ble_eq_true rfl⟩ ⟨Nat.le_of_ble_eq_true rfl, Nat.le_of_ble_eq_true rfl⟩ (Nat.le_of_ble_eq_true rfl) rfl dL_law_1459 ?_
  refine V.topi (y := nI 1) rfl ?_
  refine V.istore C dL_law_1462 (by decide) rfl ?_
  dsimp only [List.set]
  refine V.aload_n C dL_law_1464 rfl ?_
  refine V.aload_n C dL_law_1465 rfl ?_
  refine V.iload C dL_law_1466 rfl ?_
  refine V.iconst C (v := nI 1) dL_law_1468 (by decide) ?_
  refine V.iadd C dL_law_1469 ?_
  refine V.topi (y := nI 1) (by decide +kernel) ?_
  refine V.sld C CXs (vp_in_nI (by decide) (by decide)) dL_law_1470 ?_
  refine V.topi (y := xs 1) ((congrArg xs (nI_clamp (by decide)))) ?_
  refine V.aload_n C dL_law_1471 rfl ?_
  refine V.iload C dL_law_1472 rfl ?_
  refine V.iconst C (v := nI 2) dL_law_1474 (by decide) ?_
  refine V.iadd C dL_law_1475 ?_
  refine V.topi (y := nI 2) (by decide +kernel) ?_
  refine V.sld C CXs (vp_in_nI (by decide) (by decide)) dL_law_1476 ?_
  refine V.topi (y := xs 2) ((congrArg xs (nI_clamp (by decide)))) ?_
  refine V.aload_n C dL_law_1477 rfl ?_
  refine V.iload C dL_law_1478 rfl ?_
  refine V.iconst C (v := nI 3) dL_law_1480 (by decide) ?_
  refine V.iadd C dL_law_1481 ?_
  refine V.topi (y := nI 3) (by decide +kernel) ?_
  refine V.sld C CXs (vp_in_nI (by decide) (by decide)) dL_law_1482 ?_
  refine V.topi (y := xs 3) ((congrArg xs (nI_clamp (by decide)))) ?_
  refine V.swapw ?_
  refine V.zVfx C ZE (X := _) (cz_X10_held_x) rfl gLZ_held (n := 3) ⟨rfl, by decide, by decide, by decide +kernel⟩ rfl (q0 := 0) rfl rfl rfl ⟨Nat.le_of_ble_eq_true rfl, Nat.le_of_ble_eq_true rfl⟩ ⟨Nat.le_of_ble_eq_true rfl, Nat.le_of_ble_eq_true rfl⟩ (Nat.le_of_ble_eq_true rfl) rfl dL_law_1483 (fun fs => ?_)
  refine V.istore C dL_law_1486 (by decide) rfl ?_
  dsimp only [List.set]
  refine V.aload_n C dL_law_1488 rfl ?_
  refine V.zVin C ZE (cz_X10_thrown (x := nI 1) rfl) gLZ_thrown (n := 0) ⟨rfl, by decide, by decide, by decide +kernel⟩ rfl (q0 := 0) rfl rfl rfl ⟨Nat.le_of_ble_eq_true rfl, Nat.le_of_ble_eq_true rfl⟩ ⟨Nat.le_of_ble_eq_true rfl, Nat.le_of_ble_eq_true rfl⟩ (Nat.le_of_ble_eq_true rfl) rfl dL_law_1489 ?_
  refine V.iload C dL_law_1492 rfl ?_
  refine V.icmp_eq C (tgt := 1499) dL_law_1494 (by decide) (fun c1494 => ?_) (fun c1494 => ?_)
  rotate_left
  · exfalso; exact absurd c1494 (by decide +kernel)
  refine V.iload C dL_law_1499 rfl ?_
  refine V.if_ne C (tgt := 1516) dL_law_1501 (by decide) (fun c1501 => ?_) (fun c1501 => ?_)
  rotate_left
  · exfalso; exact absurd c1501 (by decide +kernel)
  refine V.goto C (tgt := 1755) dL_law_1516 (by decide) ?_
  exact law_tail C CXs kk (Nat.le_of_ble_eq_true rfl) (Nat.le_of_ble_eq_true rfl) (lsub_s rfl (lsub_n (lsub_n (lsub_n (lsub_s rfl (lsub_n (lsub_n (lsub_n (lsub_n lsub_e)))))))))
set_option maxRecDepth 100000 in
set_option maxHeartbeats 4000000 in
theorem law_23 {κ : VK} {l : Launch} {D : va_G} {nm : String} {cI cL cII cO : ClassId} {e0 o b : Nat} {h g : Nat → Nat} {xs : Nat → Int32} (hfl : l.stackTraces = false) (C : Cx κ l D code RL wsL_law 9 ret (TY cI cL cII cO) room_1 nm) (CXs : CxX κ b 5 xs) (ZE : EZ κ e0) (ZX9 : XZ κ TL)  (kk : ∀ (w : va_W) (L : List (Option Value)), V κ 600000 7000000 w 1762 L [.int (nI 1)]) : V κ 100 2000 ((SW cI h jInit ++ [(o, .inl (cL, 1, .inr (.inl (fun _ => (0 : Int64)))))]) ++ (MF cI cII e0 g ((nI 0)))) 1519 [some (.ref b), some (.ref (h 0)), some (.ref (g 0)), some (.ref o), some (.int (nI 0)), none, none, none, none] [] := by
  refine V.aload_n C dL_law_1519 rfl ?_
  refine V.world (w' := SW cI h jInit ++ ([(o, .inl (cL, 1, .inr (.inl (fun _ => (0 : Int64)))))] ++ (MF cI cII e0 g ((nI 0))))) rfl ?_
  refine V.zVix C ZE (X := _) (cz_X6_meanSeconds) rfl gL_law_X6_meanSeconds (n := 0) ⟨rfl, by decide, by decide, by decide +kernel⟩ rfl (q0 := 0) rfl rfl rfl ⟨Nat.le_of_ble_eq_true rfl, Nat.le_of_ble_eq_true rfl⟩ ⟨Nat.le_of_ble_eq_true rfl, Nat.le_of_ble_eq_true rfl⟩ (Nat.le_of_ble_eq_true rfl) rfl dL_law_1520 ?_
  refine V.world (w' := (SW cI h jInit ++ [(o, .inl (cL, 1, .inr (.inl (fun _ => (0 : Int64)))))]) ++ (MF cI cII e0 g ((nI 0)))) rfl ?_
  refine V.dstore C dL_law_1523 (by decide) rfl ?_
  dsimp only [List.set]
  refine V.aload_n C dL_law_1525 rfl ?_
  refine V.swapw ?_
  refine V.zVfx C ZE (X := _) (cz_X10_meanSeconds) rfl gLZ_meanSeconds (n := 0) ⟨rfl, by decide, by decide, by decide +kernel⟩ rfl (q0 := 0) rfl rfl rfl ⟨Nat.le_of_ble_eq_true rfl, Nat.le_of_ble_eq_true rfl⟩ ⟨Nat.le_of_ble_eq_true rfl, Nat.le_of_ble_eq_true rfl⟩ (Nat.le_of_ble_eq_true rfl) rfl dL_law_1526 (fun fs => ?_)
  refine V.dstore C dL_law_1529 (by decide) rfl ?_
  dsimp only [List.set]
  refine V.dload C dL_law_1531 rfl ?_
  refine V.dload C dL_law_1533 rfl ?_
  refine V.dcmp C dL_law_1535 ?_
  refine V.topi (y := nI 0) (by decide +kernel) ?_
  refine V.if_eq C (tgt := 1557) dL_law_1536 (by decide) (fun c1536 => ?_) (fun c1536 => ?_)
  rotate_left
  · exfalso; exact absurd c1536 (by decide +kernel)
  refine V.goto C (tgt := 1755) dL_law_1557 (by decide) ?_
  exact law_tail C CXs kk (Nat.le_of_ble_eq_true rfl) (Nat.le_of_ble_eq_true rfl) (lsub_s rfl (lsub_n (lsub_n (lsub_n (lsub_s rfl (lsub_n (lsub_n (lsub_n (lsub_n lsub_e)))))))))
set_option maxRecDepth 100000 in
set_option maxHeartbeats 4000000 in
theorem law_24 {κ : VK} {l : Launch} {D : va_G} {nm : String} {cI cL cII cO : ClassId} {e0 o b : Nat} {h g : Nat → Nat} {xs : Nat → Int32} (hfl : l.stackTraces = false) (C : Cx κ l D code RL wsL_law 9 ret (TY cI cL cII cO) room_1 nm) (CXs : CxX κ b 5 xs) (ZE : EZ κ e0) (ZX9 : XZ κ TL)  (kk : ∀ (w : va_W) (L : List (Option Value)), V κ 600000 7000000 w 1762 L [.int (nI 1)]) : V κ 100 2000 ((SW cI h jInit ++ [(o, .inl (cL, 1, .inr (.inl (fun _ => (0 : Int64)))))]) ++ (MF cI cII e0 g ((nI 0)))) 1560 [some (.ref b), some (.ref (h 0)), some (.ref (g 0)), some (.ref o), some (.int (nI 0)), none, none, none, none] [] := by
  refine V.aload_n C dL_law_1560 rfl ?_
  refine V.world (w' := SW cI h jInit ++ ([(o, .inl (cL, 1, .inr (.inl (fun _ => (0 : Int64)))))] ++ (MF cI cII e0 g ((nI 0))))) rfl ?_
  refine V.callVXi C (X := _) (ct_X6_cleaned (N := 0) rfl rfl (by decide)) rfl gL_law_X6_cleaned (n := 0) ⟨rfl, by decide, by decide, by decide +kernel⟩ rfl (q0 := 0) rfl rfl rfl ⟨Nat.le_of_ble_eq_true rfl, Nat.le_of_ble_eq_true rfl⟩ ⟨rfl, rfl, Nat.le_of_ble_eq_true rfl, Nat.le_of_ble_eq_true rfl⟩ (Nat.le_of_ble_eq_true rfl) rfl dL_law_1561 ?_
  refine V.topi (y := nI 0) (by decide +kernel) ?_
  refine V.world (w' := (SW cI h jInit ++ [(o, .inl (cL, 1, .inr (.inl (fun _ => (0 : Int64)))))]) ++ (MF cI cII e0 g ((nI 0)))) rfl ?_
  refine V.aload_n C dL_law_1564 rfl ?_
  refine V.swapw ?_
  refine V.zVfx C ZE (X := _) (cz_X10_cleaned) rfl gLZ_cleaned (n := 0) ⟨rfl, by decide, by decide, by decide +kernel⟩ rfl (q0 := 0) rfl rfl rfl ⟨Nat.le_of_ble_eq_true rfl, Nat.le_of_ble_eq_true rfl⟩ ⟨Nat.le_of_ble_eq_true rfl, Nat.le_of_ble_eq_true rfl⟩ (Nat.le_of_ble_eq_true rfl) rfl dL_law_1565 (fun fs => ?_)
  refine V.icmp_eq C (tgt := 1755) dL_law_1568 (by decide) (fun c1568 => ?_) (fun c1568 => ?_)
  rotate_left
  · exfalso; exact absurd c1568 (by decide +kernel)
  exact law_tail C CXs kk (Nat.le_of_ble_eq_true rfl) (Nat.le_of_ble_eq_true rfl) (lsub_s rfl (lsub_n (lsub_n (lsub_n (lsub_s rfl (lsub_n (lsub_n (lsub_n (lsub_n lsub_e)))))))))
set_option maxRecDepth 100000 in
set_option maxHeartbeats 4000000 in
theorem law_27_x {κ : VK} {l : Launch} {D : va_G} {nm : String} {cI cL cII cO : ClassId} {e0 o b : Nat} {h g : Nat → Nat} {xs : Nat → Int32} (hfl : l.stackTraces = false) (C : Cx κ l D code RL wsL_law 9 ret (TY cI cL cII cO) room_1 nm) (CXs : CxX κ b 5 xs) (ZE : EZ κ e0) (ZX9 : XZ κ TL)  (kk : ∀ (w : va_W) (L : List (Option Value)), V κ 600000 7000000 w 1762 L [.int (nI 1)]) : V κ 100 2000 ((SW cI h jInit ++ [(o, .inl (cL, 1, .inr (.inl (fun _ => (0 : Int64)))))]) ++ (MF cI cII e0 g ((nI 0)))) 1685 [some (.ref b), some (.ref (h 0)), some (.ref (g 0)), some (.ref o), some (.int (nI 0)), none, none, none, none] [] := by
  refine V.aload_n C dL_law_1685 rfl ?_
  refine V.aload_n C dL_law_1686 rfl ?_
  refine V.iload C dL_law_1687 rfl ?_
  refine V.iconst C (v := nI 1) dL_law_1689 (by decide) ?_
  refine V.iadd C dL_law_1690 ?_
  refine V.topi (y := nI 1) (by decide +kernel) ?_
  refine V.sld C CXs (vp_in_nI (by decide) (by decide)) dL_law_1691 ?_
  refine V.topi (y := xs 1) ((congrArg xs (nI_clamp (by decide)))) ?_
  refine V.aload_n C dL_law_1692 rfl ?_
  refine V.hS C ZX9 (X := (MF cI cII e0 g ((nI 0)))) (ct_L_shortest_x hfl rfl rfl) rfl gL_law_L_shortest (n := 3) ⟨by decide, by decide, by decide +kernel⟩ rfl rfl ⟨Nat.le_of_ble_eq_true rfl, Nat.le_of_ble_eq_true rfl⟩ ⟨Nat.le_of_ble_eq_true rfl, Nat.le_of_ble_eq_true rfl⟩ (Nat.le_of_ble_eq_true rfl) rfl dL_law_1693 ?_
  refine V.topi (y := nI 1) rfl ?_
  refine V.istore C dL_law_1696 (by decide) rfl ?_
  dsimp only [List.set]
  refine V.aload_n C dL_law_1698 rfl ?_
  refine V.aload_n C dL_law_1699 rfl ?_
  refine V.iload C dL_law_1700 rfl ?_
  refine V.iconst C (v := nI 1) dL_law_1702 (by decide) ?_
  refine V.iadd C dL_law_1703 ?_
  refine V.topi (y := nI 1) (by decide +kernel) ?_
  refine V.sld C CXs (vp_in_nI (by decide) (by decide)) dL_law_1704 ?_
  refine V.topi (y := xs 1) ((congrArg xs (nI_clamp (by decide)))) ?_
  refine V.swapw ?_
  refine V.zVfx C ZE (X := _) (cz_X10_shortest_x) rfl gLZ_shortest (n := 1) ⟨rfl, by decide, by decide, by decide +kernel⟩ rfl (q0 := 0) rfl rfl rfl ⟨Nat.le_of_ble_eq_true rfl, Nat.le_of_ble_eq_true rfl⟩ ⟨Nat.le_of_ble_eq_true rfl, Nat.le_of_ble_eq_true rfl⟩ (Nat.le_of_ble_eq_true rfl) rfl dL_law_1705 (fun fs => ?_)
  refine V.istore C dL_law_1708 (by decide) rfl ?_
  dsimp only [List.set]
  refine V.aload_n C dL_law_1710 rfl ?_
  refine V.zVin C ZE (cz_X10_thrown (x := nI 1) rfl) gLZ_thrown (n := 0) ⟨rfl, by decide, by decide, by decide +kernel⟩ rfl (q0 := 0) rfl rfl rfl ⟨Nat.le_of_ble_eq_true rfl, Nat.le_of_ble_eq_true rfl⟩ ⟨Nat.le_of_ble_eq_true rfl, Nat.le_of_ble_eq_true rfl⟩ (Nat.le_of_ble_eq_true rfl) rfl dL_law_1711 ?_
  refine V.iload C dL_law_1714 rfl ?_
  refine V.icmp_eq C (tgt := 1721) dL_law_1716 (by decide) (fun c1716 => ?_) (fun c1716 => ?_)
  rotate_left
  · exfalso; exact absurd c1716 (by decide +kernel)
  refine V.iload C dL_law_1721 rfl ?_
  refine V.if_ne C (tgt := 1738) dL_law_1723 (by decide) (fun c1723 => ?_) (fun c1723 => ?_)
  rotate_left
  · exfalso; exact absurd c1723 (by decide +kernel)
  refine V.goto C (tgt := 1755) dL_law_1738 (by decide) ?_
  exact law_tail C CXs kk (Nat.le_of_ble_eq_true rfl) (Nat.le_of_ble_eq_true rfl) (lsub_s rfl (lsub_n (lsub_n (lsub_n (lsub_s rfl (lsub_n (lsub_n (lsub_n (lsub_n lsub_e)))))))))
set_option maxRecDepth 100000 in
set_option maxHeartbeats 4000000 in
theorem law_28 {κ : VK} {l : Launch} {D : va_G} {nm : String} {cI cL cII cO : ClassId} {e0 o b : Nat} {h g : Nat → Nat} {xs : Nat → Int32} (hfl : l.stackTraces = false) (C : Cx κ l D code RL wsL_law 9 ret (TY cI cL cII cO) room_1 nm) (CXs : CxX κ b 5 xs) (ZE : EZ κ e0) (ZX9 : XZ κ TL)  (kk : ∀ (w : va_W) (L : List (Option Value)), V κ 600000 7000000 w 1762 L [.int (nI 1)]) : V κ 100 2000 ((SW cI h jInit ++ [(o, .inl (cL, 1, .inr (.inl (fun _ => (0 : Int64)))))]) ++ (MF cI cII e0 g ((nI 0)))) 1741 [some (.ref b), some (.ref (h 0)), some (.ref (g 0)), some (.ref o), some (.int (nI 0)), none, none, none, none] [] := by
  refine V.aload_n C dL_law_1741 rfl ?_
  refine V.world (w' := SW cI h jInit ++ ([(o, .inl (cL, 1, .inr (.inl (fun _ => (0 : Int64)))))] ++ (MF cI cII e0 g ((nI 0))))) rfl ?_
  refine V.callVXi C (X := _) (ct_X6_digest (N := 0) (P := 0) (Q := 0) rfl rfl (by decide) (fun p hp => absurd hp (Nat.not_lt_zero p)) rfl (by decide) (fun p hp => absurd hp (Nat.not_lt_zero p)) rfl (by decide) (fun p hp => absurd hp (Nat.not_lt_zero p)) (fun f a hf => absurd hf (Nat.not_lt_zero f))) rfl gL_law_X6_digest (n := 0) ⟨rfl, by decide, by decide, by decide +kernel⟩ rfl (q0 := 0) rfl rfl rfl ⟨Nat.le_of_ble_eq_true rfl, Nat.le_of_ble_eq_true rfl⟩ ⟨rfl, rfl, Nat.le_of_ble_eq_true rfl, Nat.le_of_ble_eq_true rfl⟩ (Nat.le_of_ble_eq_true rfl) rfl dL_law_1742 ?_
  refine V.topl (y := 6859490078996003618) (by decide +kernel) ?_
  refine V.world (w' := (SW cI h (jStQ jInit 0 0) ++ [(o, .inl (cL, 1, .inr (.inl (fun _ => (0 : Int64)))))]) ++ (MF cI cII e0 g ((nI 0)))) rfl ?_
  refine V.aload_n C dL_law_1745 rfl ?_
  refine V.swapw ?_
  refine V.zVfx C ZE (X := _) (cz_X10_digest) rfl gLZ_digest (n := 0) ⟨rfl, by decide, by decide, by decide +kernel⟩ rfl (q0 := 0) rfl rfl rfl ⟨Nat.le_of_ble_eq_true rfl, Nat.le_of_ble_eq_true rfl⟩ ⟨Nat.le_of_ble_eq_true rfl, Nat.le_of_ble_eq_true rfl⟩ (Nat.le_of_ble_eq_true rfl) rfl dL_law_1746 (fun fs => ?_)
  refine V.lcmp C dL_law_1749 ?_
  refine V.if_eq C (tgt := 1755) dL_law_1750 (by decide) (fun c1750 => ?_) (fun c1750 => ?_)
  rotate_left
  · exfalso; exact absurd c1750 (by decide +kernel)
  exact law_tail C CXs kk (Nat.le_of_ble_eq_true rfl) (Nat.le_of_ble_eq_true rfl) (lsub_s rfl (lsub_n (lsub_n (lsub_n (lsub_s rfl (lsub_n (lsub_n (lsub_n (lsub_n lsub_e)))))))))
