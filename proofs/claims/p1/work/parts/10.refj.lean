set_option maxRecDepth 100000 in
set_option maxHeartbeats 4000000 in
theorem cz_Jxa1e45_init_da8c8 {l : Launch} {D : va_G} {cI cL cII cO : ClassId} {e0 : Nat} {w : va_W} {a : Nat} : CtZ l D (TY cI cL cII cO) e0 yJxa1e45_init_da8c8 (Cond.code yJxa1e45_init_da8c8 cJxa1e45_init_da8c8 1 none :: TBL) ({ frames := 1, cells := 0, slots := 0, locals := 28 } : Room) w [.ref a] (fun r z => r = none ∧ z = w) := by
  refine CtZ.of [some (.ref a)] (by decide) rfl rfl (Nat.le_of_ble_eq_true rfl) rfl (fun κ C ZE hQ => ?_)
  refine V.aload_n C dJxa1e45_init_da8c8_0 rfl ?_
  refine V.objInit C (List.mem_cons_of_mem _ tw_0) (List.mem_cons_of_mem _ tw_1) (List.mem_cons_of_mem _ tw_2) (Nat.le_of_ble_eq_true rfl) (Nat.le_of_ble_eq_true rfl) dJxa1e45_init_da8c8_1 ?_
  refine V.widen (k := 0) (n := 0) (Nat.le_of_ble_eq_true rfl) (Nat.le_of_ble_eq_true rfl) ?_
  exact hQ _ _ _ _ _ (Or.inl ⟨dJxa1e45_init_da8c8_4, rfl, rfl, rfl⟩) ⟨rfl, rfl⟩
set_option maxRecDepth 100000 in
set_option maxHeartbeats 4000000 in
theorem cz_Jxc12de_init_da8c8 {l : Launch} {D : va_G} {cI cL cII cO : ClassId} {e0 : Nat} {a : Nat} : CtZ l D (TY cI cL cII cO) e0 yJxc12de_init_da8c8 (Cond.code yJxc12de_init_da8c8 cJxc12de_init_da8c8 1 none :: TBL) ({ frames := 2, cells := 0, slots := 0, locals := 48 } : Room) [(a, .inr (1, [.int (nI 0), .null, .int (nI 0)]))] [.ref a] (fun r z => r = none ∧ z = [(a, .inr (1, [.int (nI 0), .null, .int (nI 0)]))]) := by
  refine CtZ.of [some (.ref a)] (by decide) rfl rfl (Nat.le_of_ble_eq_true rfl) rfl (fun κ C ZE hQ => ?_)
  refine V.aload_n C dJxc12de_init_da8c8_0 rfl ?_
  refine V.zIvn C ZE (cz_Jxa1e45_init_da8c8) gi_Jxa1e45_init_da8c8 (List.mem_cons_of_mem _ tw_4) (List.mem_cons_of_mem _ tw_5) (List.mem_cons_of_mem _ tw_6) rfl (n := 0) ⟨by decide, by decide, by decide +kernel⟩ rfl rfl ⟨Nat.le_of_ble_eq_true rfl, Nat.le_of_ble_eq_true rfl⟩ ⟨Nat.le_of_ble_eq_true rfl, Nat.le_of_ble_eq_true rfl⟩ (Nat.le_of_ble_eq_true rfl) rfl dJxc12de_init_da8c8_1 ?_
  refine V.aload_n C dJxc12de_init_da8c8_4 rfl ?_
  refine V.iconst C (v := nI 0) dJxc12de_init_da8c8_5 (by decide) ?_
  refine V.put C (q0 := 0) (k := 0) (w' := _) rfl rfl (by decide) (iz_Jx4a65c _) (List.mem_cons_of_mem _ tw_7) rfl tyJx4a65c tyJx4a65c_ok nmJx4a65c rfl rfl rfl rfl (Nat.le_of_ble_eq_true rfl) rfl dJxc12de_init_da8c8_6 ?_
  refine V.widen (k := 0) (n := 0) (Nat.le_of_ble_eq_true rfl) (Nat.le_of_ble_eq_true rfl) ?_
  exact hQ _ _ _ _ _ (Or.inl ⟨dJxc12de_init_da8c8_9, rfl, rfl, rfl⟩) ⟨rfl, rfl⟩
set_option maxRecDepth 100000 in
set_option maxHeartbeats 4000000 in
theorem cz_Jx4a65c_init_da8c8 {l : Launch} {D : va_G} {cI cL cII cO : ClassId} {e0 : Nat} {a : Nat} : CtZ l D (TY cI cL cII cO) e0 yJx4a65c_init_da8c8 (Cond.code yJx4a65c_init_da8c8 cJx4a65c_init_da8c8 1 none :: TBL) ({ frames := 3, cells := 0, slots := 0, locals := 68 } : Room) [(a, .inr (1, [.int (nI 0), .null, .int (nI 0)]))] [.ref a] (fun r z => r = none ∧ z = [(a, .inr (1, [.int (nI 0), .ref e0, .int (nI 0)]))]) := by
  refine CtZ.of [some (.ref a)] (by decide) rfl rfl (Nat.le_of_ble_eq_true rfl) rfl (fun κ C ZE hQ => ?_)
  refine V.aload_n C dJx4a65c_init_da8c8_0 rfl ?_
  refine V.zIvx C ZE (X := []) (cz_Jxc12de_init_da8c8) (by first | rfl | exact (List.append_nil _).symm) gi_Jxc12de_init_da8c8 (List.mem_cons_of_mem _ tw_9) (List.mem_cons_of_mem _ tw_10) (List.mem_cons_of_mem _ tw_11) rfl (n := 0) ⟨by decide, by decide, by decide +kernel⟩ rfl rfl ⟨Nat.le_of_ble_eq_true rfl, Nat.le_of_ble_eq_true rfl⟩ ⟨Nat.le_of_ble_eq_true rfl, Nat.le_of_ble_eq_true rfl⟩ (Nat.le_of_ble_eq_true rfl) rfl dJx4a65c_init_da8c8_1 ?_
  refine V.aload_n C dJx4a65c_init_da8c8_4 rfl ?_
  refine V.getE C ZE (List.mem_cons_of_mem _ tw_12) dJx4a65c_init_da8c8_5 ?_
  refine V.put C (q0 := 0) (k := 1) (w' := _) rfl rfl (by decide) (iz_Jx4a65c _) (List.mem_cons_of_mem _ tw_13) rfl tyJx4a65c tyJx4a65c_ok nmJx4a65c rfl rfl rfl rfl (Nat.le_of_ble_eq_true rfl) rfl dJx4a65c_init_da8c8_8 ?_
  refine V.widen (k := 0) (n := 0) (Nat.le_of_ble_eq_true rfl) (Nat.le_of_ble_eq_true rfl) ?_
  exact hQ _ _ _ _ _ (Or.inl ⟨dJx4a65c_init_da8c8_11, rfl, rfl, rfl⟩) ⟨rfl, rfl⟩
set_option maxRecDepth 100000 in
set_option maxHeartbeats 4000000 in
theorem cz_Jx4a65c_size_8abf5 {l : Launch} {D : va_G} {cI cL cII cO : ClassId} {e0 : Nat}  {w : va_W} {k a e1 : Nat} {m n : Int32} (hk : w[k]? = some (a, .inr (1, [.int (m), .ref e1, .int (n)]))) : CtZ l D (TY cI cL cII cO) e0 yJx4a65c_size_8abf5 (Cond.code yJx4a65c_size_8abf5 cJx4a65c_size_8abf5 1 (some .int) :: TBL) ({ frames := 0, cells := 0, slots := 0, locals := 0 } : Room) w [.ref a] (fun r z => r = some (.int n) ∧ z = w) := by
  refine CtZ.of [some (.ref a)] (by decide) rfl rfl (Nat.le_of_ble_eq_true rfl) rfl (fun κ C ZE hQ => ?_)
  refine V.aload_n C dJx4a65c_size_8abf5_0 rfl ?_
  refine V.get C (q0 := k) (k := 2) hk rfl (by decide) (iz_Jx4a65c _) (List.mem_cons_of_mem _ tw_15) rfl rfl dJx4a65c_size_8abf5_1 ?_
  refine V.widen (k := 0) (n := 0) (Nat.le_of_ble_eq_true rfl) (Nat.le_of_ble_eq_true rfl) ?_
  exact hQ _ _ _ _ _ (Or.inr (Or.inl ⟨_, _, dJx4a65c_size_8abf5_4, rfl, by first | rfl | exact nar_bI _, rfl, rfl⟩)) ⟨rfl, rfl⟩
set_option maxRecDepth 100000 in
set_option maxHeartbeats 4000000 in
theorem cz_Jx4a65c_isEmpty_aae02 {l : Launch} {D : va_G} {cI cL cII cO : ClassId} {e0 : Nat}  {w : va_W} {k a e1 : Nat} {m : Int32} (hk : w[k]? = some (a, .inr (1, [.int (m), .ref e1, .int (nI 0)]))) : CtZ l D (TY cI cL cII cO) e0 yJx4a65c_isEmpty_aae02 (Cond.code yJx4a65c_isEmpty_aae02 cJx4a65c_isEmpty_aae02 1 (some .boolean) :: TBL) ({ frames := 0, cells := 0, slots := 0, locals := 0 } : Room) w [.ref a] (fun r z => r = some (.int (nI 1)) ∧ z = w) := by
  refine CtZ.of [some (.ref a)] (by decide) rfl rfl (Nat.le_of_ble_eq_true rfl) rfl (fun κ C ZE hQ => ?_)
  refine V.aload_n C dJx4a65c_isEmpty_aae02_0 rfl ?_
  refine V.get C (q0 := k) (k := 2) hk rfl (by decide) (iz_Jx4a65c _) (List.mem_cons_of_mem _ tw_15) rfl rfl dJx4a65c_isEmpty_aae02_1 ?_
  refine V.if_ne C (tgt := 11) dJx4a65c_isEmpty_aae02_4 (by decide) (fun c4 => ?_) (fun c4 => ?_)
  · exfalso; exact absurd c4 (by decide +kernel)
  refine V.iconst C (v := nI 1) dJx4a65c_isEmpty_aae02_7 (by decide) ?_
  refine V.goto C (tgt := 12) dJx4a65c_isEmpty_aae02_8 (by decide) ?_
  refine V.widen (k := 0) (n := 0) (Nat.le_of_ble_eq_true rfl) (Nat.le_of_ble_eq_true rfl) ?_
  exact hQ _ _ _ _ _ (Or.inr (Or.inl ⟨_, _, dJx4a65c_isEmpty_aae02_12, rfl, by first | rfl | exact nar_bI _, rfl, rfl⟩)) ⟨rfl, rfl⟩
set_option maxRecDepth 100000 in
set_option maxHeartbeats 4000000 in
theorem cz_Jx35411_init_45d68 {l : Launch} {D : va_G} {cI cL cII cO : ClassId} {e0 : Nat} {b a : Nat} : CtZ l D (TY cI cL cII cO) e0 yJx35411_init_45d68 (Cond.code yJx35411_init_45d68 cJx35411_init_45d68 2 none :: TBL) ({ frames := 1, cells := 0, slots := 0, locals := 28 } : Room) [(b, .inr (0, [.int (nI 0), .int (nI 0), .int (nI 0), .null])), (a, .inr (1, [.int (nI 0), .ref e0, .int (nI 0)]))] [.ref b, .ref a] (fun r z => r = none ∧ z = [(b, .inr (0, [.int (nI 0), .int (-1), .int (nI 0), .ref a])), (a, .inr (1, [.int (nI 0), .ref e0, .int (nI 0)]))]) := by
  refine CtZ.of [some (.ref b), some (.ref a)] (by decide) rfl rfl (Nat.le_of_ble_eq_true rfl) rfl (fun κ C ZE hQ => ?_)
  refine V.aload_n C dJx35411_init_45d68_0 rfl ?_
  refine V.aload_n C dJx35411_init_45d68_1 rfl ?_
  refine V.putF C (q0 := 0) (k := 3) (w' := _) rfl rfl (by decide) (iz_Jx35411 _) (List.mem_cons_of_mem _ tw_18) rfl tyJx35411 tyJx35411_ok nmJx35411 rfl rfl rfl rfl rfl rfl (Nat.le_of_ble_eq_true rfl) rfl dJx35411_init_45d68_2 ?_
  refine V.aload_n C dJx35411_init_45d68_5 rfl ?_
  refine V.objInit C (List.mem_cons_of_mem _ tw_19) (List.mem_cons_of_mem _ tw_1) (List.mem_cons_of_mem _ tw_2) (Nat.le_of_ble_eq_true rfl) (Nat.le_of_ble_eq_true rfl) dJx35411_init_45d68_6 ?_
  refine V.aload_n C dJx35411_init_45d68_9 rfl ?_
  refine V.iconst C (v := -1) dJx35411_init_45d68_10 (by decide) ?_
  refine V.put C (q0 := 0) (k := 1) (w' := _) rfl rfl (by decide) (iz_Jx35411 _) (List.mem_cons_of_mem _ tw_20) rfl tyJx35411 tyJx35411_ok nmJx35411 rfl rfl rfl rfl (Nat.le_of_ble_eq_true rfl) rfl dJx35411_init_45d68_11 ?_
  refine V.aload_n C dJx35411_init_45d68_14 rfl ?_
  refine V.aload_n C dJx35411_init_45d68_15 rfl ?_
  refine V.get C (q0 := 0) (k := 3) rfl rfl (by decide) (iz_Jx35411 _) (List.mem_cons_of_mem _ tw_18) rfl rfl dJx35411_init_45d68_16 ?_
  refine V.getU C (q0 := 1) (k := 0) rfl rfl (by decide) (iz_Jx4a65c _) (List.mem_cons_of_mem _ tw_22) (List.mem_cons_of_mem _ tw_21) rfl dJx35411_init_45d68_19 ?_
  refine V.put C (q0 := 0) (k := 2) (w' := _) rfl rfl (by decide) (iz_Jx35411 _) (List.mem_cons_of_mem _ tw_23) rfl tyJx35411 tyJx35411_ok nmJx35411 rfl rfl rfl rfl (Nat.le_of_ble_eq_true rfl) rfl dJx35411_init_45d68_22 ?_
  refine V.widen (k := 0) (n := 0) (Nat.le_of_ble_eq_true rfl) (Nat.le_of_ble_eq_true rfl) ?_
  exact hQ _ _ _ _ _ (Or.inl ⟨dJx35411_init_45d68_25, rfl, rfl, rfl⟩) ⟨rfl, rfl⟩
set_option maxRecDepth 100000 in
set_option maxHeartbeats 4000000 in
theorem cz_Jx4a65c_iterator_32c93 {l : Launch} {D : va_G} {cI cL cII cO : ClassId} {e0 : Nat} {a : Nat} : CtZ l D (TY cI cL cII cO) e0 yJx4a65c_iterator_32c93 (Cond.code yJx4a65c_iterator_32c93 cJx4a65c_iterator_32c93 1 (some (.object "java/util/Iterator")) :: TBL) ({ frames := 2, cells := 1, slots := 4, locals := 49 } : Room) [(a, .inr (1, [.int (nI 0), .ref e0, .int (nI 0)]))] [.ref a] (fun r z => ∃ q, r = some (.ref q) ∧ z = [(a, .inr (1, [.int (nI 0), .ref e0, .int (nI 0)])), (q, .inr (0, [.int (nI 0), .int (-1), .int (nI 0), .ref a]))]) := by
  refine CtZ.of [some (.ref a)] (by decide) rfl rfl (Nat.le_of_ble_eq_true rfl) rfl (fun κ C ZE hQ => ?_)
  refine V.new C (ci := 0) (fs := [.int 0, .int 0, .int 0, .null]) (iz_Jx35411 _) tyJx35411 tyJx35411_ok (List.mem_cons_of_mem _ tw_25) (List.mem_cons_of_mem _ tw_26) (List.mem_cons_of_mem _ tw_27) rfl (by intro j hj; rcases (show j = 0 ∨ j = 1 ∨ j = 2 ∨ j = 3 by omega) with rfl | rfl | rfl | rfl <;> rfl) (Nat.le_of_ble_eq_true rfl) (Nat.le_of_ble_eq_true rfl) dJx4a65c_iterator_32c93_0 (fun q1 => ?_)
  refine V.dup C dJx4a65c_iterator_32c93_3 rfl ?_
  refine V.aload_n C dJx4a65c_iterator_32c93_4 rfl ?_
  refine V.reord [1, 0] (w' := [(q1, .inr (0, [.int (nI 0), .int (nI 0), .int (nI 0), .null])), (a, .inr (1, [.int (nI 0), .ref e0, .int (nI 0)]))]) rfl (by decide) rfl ?_
  refine V.zIvx C ZE (X := []) (cz_Jx35411_init_45d68) (by first | rfl | exact (List.append_nil _).symm) gi_Jx35411_init_45d68 (List.mem_cons_of_mem _ tw_27) (List.mem_cons_of_mem _ tw_28) (List.mem_cons_of_mem _ tw_29) rfl (n := 1) ⟨by decide, by decide, by decide +kernel⟩ rfl rfl ⟨Nat.le_of_ble_eq_true rfl, Nat.le_of_ble_eq_true rfl⟩ ⟨Nat.le_of_ble_eq_true rfl, Nat.le_of_ble_eq_true rfl⟩ (Nat.le_of_ble_eq_true rfl) rfl dJx4a65c_iterator_32c93_5 ?_
  refine V.reord [1, 0] (w' := [(a, .inr (1, [.int (nI 0), .ref e0, .int (nI 0)])), (q1, .inr (0, [.int (nI 0), .int (-1), .int (nI 0), .ref a]))]) rfl (by decide) rfl ?_
  refine V.widen (k := 1) (n := 4) (Nat.le_of_ble_eq_true rfl) (Nat.le_of_ble_eq_true rfl) ?_
  exact hQ _ _ _ _ _ (Or.inr (Or.inr (Or.inr (Or.inl ⟨_, _, dJx4a65c_iterator_32c93_8, rfl, Or.inl ⟨_, rfl⟩, rfl, rfl⟩)))) ⟨_, rfl, rfl⟩
set_option maxRecDepth 100000 in
set_option maxHeartbeats 4000000 in
theorem cz_Jx35411_hasNext_aae02 {l : Launch} {D : va_G} {cI cL cII cO : ClassId} {e0 : Nat}  {w : va_W} {i k a b : Nat} (hi : w[i]? = some (b, .inr (0, [.int (nI 0), .int (-1), .int (nI 0), .ref a]))) (hk : w[k]? = some (a, .inr (1, [.int (nI 0), .ref e0, .int (nI 0)]))) : CtZ l D (TY cI cL cII cO) e0 yJx35411_hasNext_aae02 (Cond.code yJx35411_hasNext_aae02 cJx35411_hasNext_aae02 1 (some .boolean) :: TBL) ({ frames := 0, cells := 0, slots := 0, locals := 0 } : Room) w [.ref b] (fun r z => r = some (.int (nI 0)) ∧ z = w) := by
  refine CtZ.of [some (.ref b)] (by decide) rfl rfl (Nat.le_of_ble_eq_true rfl) rfl (fun κ C ZE hQ => ?_)
  refine V.aload_n C dJx35411_hasNext_aae02_0 rfl ?_
  refine V.get C (q0 := i) (k := 0) hi rfl (by decide) (iz_Jx35411 _) (List.mem_cons_of_mem _ tw_31) rfl rfl dJx35411_hasNext_aae02_1 ?_
  refine V.aload_n C dJx35411_hasNext_aae02_4 rfl ?_
  refine V.get C (q0 := i) (k := 3) hi rfl (by decide) (iz_Jx35411 _) (List.mem_cons_of_mem _ tw_18) rfl rfl dJx35411_hasNext_aae02_5 ?_
  refine V.getZ C ZE rfl (q0 := k) hk (iz_Jx4a65c _) rfl dJx35411_hasNext_aae02_8 ?_
  refine V.icmp_eq C (tgt := 18) dJx35411_hasNext_aae02_11 (by decide) (fun c11 => ?_) (fun c11 => ?_)
  rotate_left
  · exfalso; exact absurd c11 (by decide +kernel)
  refine V.iconst C (v := nI 0) dJx35411_hasNext_aae02_18 (by decide) ?_
  refine V.widen (k := 0) (n := 0) (Nat.le_of_ble_eq_true rfl) (Nat.le_of_ble_eq_true rfl) ?_
  exact hQ _ _ _ _ _ (Or.inr (Or.inl ⟨_, _, dJx35411_hasNext_aae02_19, rfl, by first | rfl | exact nar_bI _, rfl, rfl⟩)) ⟨rfl, rfl⟩
set_option maxRecDepth 100000 in
set_option maxHeartbeats 4000000 in
theorem cz_Jx4a65c_grow_92f84 {l : Launch} {D : va_G} {cI cL cII cO : ClassId} {e0 : Nat} {a : Nat} : CtZ l D (TY cI cL cII cO) e0 yJx4a65c_grow_92f84 (Cond.code yJx4a65c_grow_92f84 cJx4a65c_grow_92f84 4 (some (.array (.object "java/lang/Object"))) :: TBL) ({ frames := 1, cells := 1, slots := 10, locals := 29 } : Room) [(a, .inr (1, [.int (nI 1), .ref e0, .int (nI 0)]))] [.ref a, .int (nI 1)] (fun r z => ∃ q, r = some (.ref q) ∧ z = [(a, .inr (1, [.int (nI 1), .ref q, .int (nI 0)])), (q, .inl (cO, 10, .inr (.inr (.inr (.inr (fun _ => none))))))]) := by
  refine CtZ.of [some (.ref a), some (.int (nI 1)), none, none] (by decide) rfl rfl (Nat.le_of_ble_eq_true rfl) rfl (fun κ C ZE hQ => ?_)
  refine V.aload_n C dJx4a65c_grow_92f84_0 rfl ?_
  refine V.get C (q0 := 0) (k := 1) rfl rfl (by decide) (iz_Jx4a65c _) (List.mem_cons_of_mem _ tw_13) rfl rfl dJx4a65c_grow_92f84_1 ?_
  refine V.alenE C ZE dJx4a65c_grow_92f84_4 ?_
  refine V.istore_n C dJx4a65c_grow_92f84_5 (by decide) rfl ?_
  dsimp only [List.set, Fin.val]
  refine V.iload_n C dJx4a65c_grow_92f84_6 rfl ?_
  refine V.if_gt C (tgt := 20) dJx4a65c_grow_92f84_7 (by decide) (fun c7 => ?_) (fun c7 => ?_)
  · exfalso; exact absurd c7 (by decide +kernel)
  refine V.aload_n C dJx4a65c_grow_92f84_10 rfl ?_
  refine V.get C (q0 := 0) (k := 1) rfl rfl (by decide) (iz_Jx4a65c _) (List.mem_cons_of_mem _ tw_13) rfl rfl dJx4a65c_grow_92f84_11 ?_
  refine V.getE C ZE (List.mem_cons_of_mem _ tw_12) dJx4a65c_grow_92f84_14 ?_
  refine V.acmp_same C (tgt := 45) dJx4a65c_grow_92f84_17 (by decide) ?_
  refine V.aload_n C dJx4a65c_grow_92f84_45 rfl ?_
  refine V.bipush C (v := nI 10) dJx4a65c_grow_92f84_46 (by decide) ?_
  refine V.iload_n C dJx4a65c_grow_92f84_48 rfl ?_
  refine V.mmax C (List.mem_cons_of_mem _ tw_33) (List.mem_cons_of_mem _ tw_34) (List.mem_cons_of_mem _ tw_35) (List.mem_cons_of_mem _ tw_36) (Nat.le_of_ble_eq_true rfl) (Nat.le_of_ble_eq_true rfl) (Nat.le_of_ble_eq_true rfl) (Nat.le_of_ble_eq_true rfl) dJx4a65c_grow_92f84_49 ?_
  refine V.topi (y := nI 10) (by decide +kernel) ?_
  refine V.anewO C ZE (N := 10) (t0 := 3) rfl rfl (by decide) (List.mem_cons_of_mem _ tw_37) (Nat.le_of_ble_eq_true rfl) (Nat.le_of_ble_eq_true rfl) dJx4a65c_grow_92f84_52 (fun q1 => ?_)
  refine V.dup_x1 C dJx4a65c_grow_92f84_55 rfl rfl ?_
  refine V.put C (q0 := 0) (k := 1) (w' := _) rfl rfl (by decide) (iz_Jx4a65c _) (List.mem_cons_of_mem _ tw_13) rfl tyJx4a65c tyJx4a65c_ok nmJx4a65c rfl rfl rfl rfl (Nat.le_of_ble_eq_true rfl) rfl dJx4a65c_grow_92f84_56 ?_
  refine V.widen (k := 1) (n := 10) (Nat.le_of_ble_eq_true rfl) (Nat.le_of_ble_eq_true rfl) ?_
  exact hQ _ _ _ _ _ (Or.inr (Or.inr (Or.inr (Or.inl ⟨_, _, dJx4a65c_grow_92f84_59, rfl, Or.inr ⟨_, rfl⟩, rfl, rfl⟩)))) ⟨_, rfl, rfl⟩
set_option maxRecDepth 100000 in
set_option maxHeartbeats 4000000 in
theorem cz_Jx4a65c_grow_d5877 {l : Launch} {D : va_G} {cI cL cII cO : ClassId} {e0 : Nat} {a : Nat} : CtZ l D (TY cI cL cII cO) e0 yJx4a65c_grow_d5877 (Cond.code yJx4a65c_grow_d5877 cJx4a65c_grow_d5877 1 (some (.array (.object "java/lang/Object"))) :: TBL) ({ frames := 2, cells := 1, slots := 10, locals := 52 } : Room) [(a, .inr (1, [.int (nI 1), .ref e0, .int (nI 0)]))] [.ref a] (fun r z => ∃ q, r = some (.ref q) ∧ z = [(a, .inr (1, [.int (nI 1), .ref q, .int (nI 0)])), (q, .inl (cO, 10, .inr (.inr (.inr (.inr (fun _ => none))))))]) := by
  refine CtZ.of [some (.ref a)] (by decide) rfl rfl (Nat.le_of_ble_eq_true rfl) rfl (fun κ C ZE hQ => ?_)
  refine V.aload_n C dJx4a65c_grow_d5877_0 rfl ?_
  refine V.aload_n C dJx4a65c_grow_d5877_1 rfl ?_
  refine V.get C (q0 := 0) (k := 2) rfl rfl (by decide) (iz_Jx4a65c _) (List.mem_cons_of_mem _ tw_15) rfl rfl dJx4a65c_grow_d5877_2 ?_
  refine V.iconst C (v := nI 1) dJx4a65c_grow_d5877_5 (by decide) ?_
  refine V.iadd C dJx4a65c_grow_d5877_6 ?_
  refine V.topi (y := nI 1) (by decide +kernel) ?_
  refine V.zVqx C ZE (X := []) (cz_Jx4a65c_grow_92f84) (by first | rfl | exact (List.append_nil _).symm) gz_Jx4a65c_69 (n := 1) ⟨rfl, by decide, by decide, by decide +kernel⟩ rfl (q0 := 0) rfl rfl rfl ⟨Nat.le_of_ble_eq_true rfl, Nat.le_of_ble_eq_true rfl⟩ ⟨Nat.le_of_ble_eq_true rfl, Nat.le_of_ble_eq_true rfl⟩ (Nat.le_of_ble_eq_true rfl) rfl dJx4a65c_grow_d5877_7 (fun q1 => ?_)
  refine V.widen (k := 1) (n := 10) (Nat.le_of_ble_eq_true rfl) (Nat.le_of_ble_eq_true rfl) ?_
  exact hQ _ _ _ _ _ (Or.inr (Or.inr (Or.inr (Or.inl ⟨_, _, dJx4a65c_grow_d5877_10, rfl, Or.inr ⟨_, rfl⟩, rfl, rfl⟩)))) ⟨_, rfl, rfl⟩
set_option maxRecDepth 100000 in
set_option maxHeartbeats 4000000 in
theorem cz_Jx4a65c_add_72be8_o {l : Launch} {D : va_G} {cI cL cII cO : ClassId} {e0 : Nat} {a v : Nat} {x : va_E} {E1 : String} (hE : E1 ∈ OCs) (hx1 : (∃ ci fs T N, x = .inr (ci, fs) ∧ vwCl[ci]? = some (E1, T, N)) ∨ ∃ (t1 : Nat) (cA : ClassId) (z : vp_A), x = .inl (cA, z) ∧ (TY cI cL cII cO)[t1]? = some (cA, FieldType.array .int) ∧ E1 = "[[I") : CtZ l D (TY cI cL cII cO) e0 yJx4a65c_add_72be8 (Cond.code yJx4a65c_add_72be8 cJx4a65c_add_72be8 4 none :: TBL) ({ frames := 3, cells := 1, slots := 10, locals := 72 } : Room) [(a, .inr (1, [.int (nI 1), .ref e0, .int (nI 0)])), (v, x)] [.ref a, .ref v, .ref e0, .int (nI 0)] (fun r z => ∃ q, r = none ∧ z = [(a, .inr (1, [.int (nI 1), .ref q, .int (nI 1)])), (v, x)]) := by
  refine CtZ.of [some (.ref a), some (.ref v), some (.ref e0), some (.int (nI 0))] (by decide) rfl rfl (Nat.le_of_ble_eq_true rfl) rfl (fun κ C ZE hQ => ?_)
  refine V.iload_n C dJx4a65c_add_72be8_0 rfl ?_
  refine V.aload_n C dJx4a65c_add_72be8_1 rfl ?_
  refine V.alenE C ZE dJx4a65c_add_72be8_2 ?_
  refine V.icmp_ne C (tgt := 11) dJx4a65c_add_72be8_3 (by decide) (fun c3 => ?_) (fun c3 => ?_)
  · exfalso; exact absurd c3 (by decide +kernel)
  refine V.aload_n C dJx4a65c_add_72be8_6 rfl ?_
  refine V.zVqx C ZE (X := [(v, x)]) (cz_Jx4a65c_grow_d5877) rfl gz_Jx4a65c_129 (n := 0) ⟨rfl, by decide, by decide, by decide +kernel⟩ rfl (q0 := 0) rfl rfl rfl ⟨Nat.le_of_ble_eq_true rfl, Nat.le_of_ble_eq_true rfl⟩ ⟨Nat.le_of_ble_eq_true rfl, Nat.le_of_ble_eq_true rfl⟩ (Nat.le_of_ble_eq_true rfl) rfl dJx4a65c_add_72be8_7 (fun q1 => ?_)
  refine V.astore_n C dJx4a65c_add_72be8_10 (by decide) rfl ?_
  dsimp only [List.set, Fin.val]
  refine V.aload_n C dJx4a65c_add_72be8_11 rfl ?_
  refine V.iload_n C dJx4a65c_add_72be8_12 rfl ?_
  refine V.aload_n C dJx4a65c_add_72be8_13 rfl ?_
  refine V.astO C ZE (q0 := 1) (t0 := 3) (qk := 2) (j := 0) rfl rfl rfl (E1 := E1) hE hx1 rfl (by decide) (by decide) dJx4a65c_add_72be8_14 ?_
  refine V.aload_n C dJx4a65c_add_72be8_15 rfl ?_
  refine V.iload_n C dJx4a65c_add_72be8_16 rfl ?_
  refine V.iconst C (v := nI 1) dJx4a65c_add_72be8_17 (by decide) ?_
  refine V.iadd C dJx4a65c_add_72be8_18 ?_
  refine V.topi (y := nI 1) (by decide +kernel) ?_
  refine V.put C (q0 := 0) (k := 2) (w' := _) rfl rfl (by decide) (iz_Jx4a65c _) (List.mem_cons_of_mem _ tw_15) rfl tyJx4a65c tyJx4a65c_ok nmJx4a65c rfl rfl rfl rfl (Nat.le_of_ble_eq_true rfl) rfl dJx4a65c_add_72be8_19 ?_
  refine V.reord [0, 2] (w' := [(a, .inr (1, [.int (nI 1), .ref q1, .int (nI 1)])), (v, x)]) rfl (by decide) rfl ?_
  refine V.widen (k := 1) (n := 10) (Nat.le_of_ble_eq_true rfl) (Nat.le_of_ble_eq_true rfl) ?_
  exact hQ _ _ _ _ _ (Or.inl ⟨dJx4a65c_add_72be8_22, rfl, rfl, rfl⟩) ⟨_, rfl, rfl⟩
set_option maxRecDepth 100000 in
set_option maxHeartbeats 4000000 in
theorem cz_Jx4a65c_add_9ea2d_o {l : Launch} {D : va_G} {cI cL cII cO : ClassId} {e0 : Nat} {a v : Nat} {x : va_E} {E1 : String} (hE : E1 ∈ OCs) (hx1 : (∃ ci fs T N, x = .inr (ci, fs) ∧ vwCl[ci]? = some (E1, T, N)) ∨ ∃ (t1 : Nat) (cA : ClassId) (z : vp_A), x = .inl (cA, z) ∧ (TY cI cL cII cO)[t1]? = some (cA, FieldType.array .int) ∧ E1 = "[[I") : CtZ l D (TY cI cL cII cO) e0 yJx4a65c_add_9ea2d (Cond.code yJx4a65c_add_9ea2d cJx4a65c_add_9ea2d 2 (some .boolean) :: TBL) ({ frames := 4, cells := 1, slots := 10, locals := 95 } : Room) [(a, .inr (1, [.int (nI 0), .ref e0, .int (nI 0)])), (v, x)] [.ref a, .ref v] (fun r z => ∃ q, r = some (.int (nI 1)) ∧ z = [(a, .inr (1, [.int (nI 1), .ref q, .int (nI 1)])), (v, x)]) := by
  refine CtZ.of [some (.ref a), some (.ref v)] (by decide) rfl rfl (Nat.le_of_ble_eq_true rfl) rfl (fun κ C ZE hQ => ?_)
  refine V.aload_n C dJx4a65c_add_9ea2d_0 rfl ?_
  refine V.dup C dJx4a65c_add_9ea2d_1 rfl ?_
  refine V.getU C (q0 := 0) (k := 0) rfl rfl (by decide) (iz_Jx4a65c _) (List.mem_cons_of_mem _ tw_48) (List.mem_cons_of_mem _ tw_21) rfl dJx4a65c_add_9ea2d_2 ?_
  refine V.iconst C (v := nI 1) dJx4a65c_add_9ea2d_5 (by decide) ?_
  refine V.iadd C dJx4a65c_add_9ea2d_6 ?_
  refine V.topi (y := nI 1) (by decide +kernel) ?_
  refine V.putU C (q0 := 0) (k := 0) (w' := _) rfl rfl (by decide) (iz_Jx4a65c _) (List.mem_cons_of_mem _ tw_48) (List.mem_cons_of_mem _ tw_21) tyJx4a65c tyJx4a65c_ok nmJx4a65c rfl rfl rfl rfl (Nat.le_of_ble_eq_true rfl) rfl dJx4a65c_add_9ea2d_7 ?_
  refine V.aload_n C dJx4a65c_add_9ea2d_10 rfl ?_
  refine V.aload_n C dJx4a65c_add_9ea2d_11 rfl ?_
  refine V.aload_n C dJx4a65c_add_9ea2d_12 rfl ?_
  refine V.get C (q0 := 0) (k := 1) rfl rfl (by decide) (iz_Jx4a65c _) (List.mem_cons_of_mem _ tw_13) rfl rfl dJx4a65c_add_9ea2d_13 ?_
  refine V.aload_n C dJx4a65c_add_9ea2d_16 rfl ?_
  refine V.get C (q0 := 0) (k := 2) rfl rfl (by decide) (iz_Jx4a65c _) (List.mem_cons_of_mem _ tw_15) rfl rfl dJx4a65c_add_9ea2d_17 ?_
  refine V.zVux C ZE (X := []) (cz_Jx4a65c_add_72be8_o hE hx1) (by first | rfl | exact (List.append_nil _).symm) gz_Jx4a65c_131 (n := 3) ⟨rfl, by decide, by decide, by decide +kernel⟩ rfl (q0 := 0) rfl rfl rfl ⟨Nat.le_of_ble_eq_true rfl, Nat.le_of_ble_eq_true rfl⟩ ⟨Nat.le_of_ble_eq_true rfl, Nat.le_of_ble_eq_true rfl⟩ (Nat.le_of_ble_eq_true rfl) rfl dJx4a65c_add_9ea2d_20 (fun q1 => ?_)
  refine V.iconst C (v := nI 1) dJx4a65c_add_9ea2d_23 (by decide) ?_
  refine V.widen (k := 1) (n := 10) (Nat.le_of_ble_eq_true rfl) (Nat.le_of_ble_eq_true rfl) ?_
  exact hQ _ _ _ _ _ (Or.inr (Or.inl ⟨_, _, dJx4a65c_add_9ea2d_24, rfl, by first | rfl | exact nar_bI _, rfl, rfl⟩)) ⟨_, rfl, rfl⟩
