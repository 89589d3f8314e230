set_option maxRecDepth 100000 in
set_option maxHeartbeats 4000000 in
theorem cz_X10_init {l : Launch} {D : va_G} {cI cL cII cO : ClassId} {e0 : Nat} {o : Nat} : CtZ l D (TY cI cL cII cO) e0 yX10_init (Cond.code yX10_init cX10_init 1 none :: TBL) ({ frames := 4, cells := 8, slots := 21, locals := 88 } : Room) [(o, .inr (12, [.int (nI 0), .null, .null, .null, .null, .null, .int (nI 0), .int (nI 0), .int (nI 0), .int (nI 0)]))] [.ref o] (fun r z => ∃ g : Nat → Nat, r = none ∧ g 0 = o ∧ z = (MF cI cII e0 g ((nI 0)))) := by
  refine CtZ.of [some (.ref o)] (by decide) rfl rfl (Nat.le_of_ble_eq_true rfl) rfl (fun κ C ZE hQ => ?_)
  refine V.aload_n C dX10_init_0 rfl ?_
  refine V.objInit C (List.mem_cons_of_mem _ tw_226) (List.mem_cons_of_mem _ tw_1) (List.mem_cons_of_mem _ tw_2) (Nat.le_of_ble_eq_true rfl) (Nat.le_of_ble_eq_true rfl) dX10_init_1 ?_
  refine V.aload_n C dX10_init_4 rfl ?_
  refine V.new C (ci := 1) (fs := [.int 0, .null, .int 0]) (iz_Jx4a65c _) tyJx4a65c tyJx4a65c_ok (List.mem_cons_of_mem _ tw_227) (List.mem_cons_of_mem _ tw_228) (List.mem_cons_of_mem _ tw_42) rfl (by intro j hj; rcases (show j = 0 ∨ j = 1 ∨ j = 2 by omega) with rfl | rfl | rfl <;> rfl) (Nat.le_of_ble_eq_true rfl) (Nat.le_of_ble_eq_true rfl) dX10_init_5 (fun q1 => ?_)
  refine V.dup C dX10_init_8 rfl ?_
  refine V.swapw ?_
  refine V.zIvx C ZE (cz_Jx4a65c_init_da8c8) (by first | rfl | exact (List.append_nil _).symm) gi_Jx4a65c_init_da8c8 (List.mem_cons_of_mem _ tw_42) (List.mem_cons_of_mem _ tw_229) (List.mem_cons_of_mem _ tw_230) rfl (n := 0) ⟨by decide, by decide, by decide +kernel⟩ rfl rfl ⟨Nat.le_of_ble_eq_true rfl, Nat.le_of_ble_eq_true rfl⟩ ⟨Nat.le_of_ble_eq_true rfl, Nat.le_of_ble_eq_true rfl⟩ (Nat.le_of_ble_eq_true rfl) rfl dX10_init_9 ?_
  refine V.swapw ?_
  refine V.putF C (q0 := 0) (k := 1) (w' := _) rfl rfl (by decide) (iz_X10 _) (List.mem_cons_of_mem _ tw_66) rfl tyX10 tyX10_ok nmX10 rfl rfl rfl rfl rfl rfl (Nat.le_of_ble_eq_true rfl) rfl dX10_init_12 ?_
  refine V.aload_n C dX10_init_15 rfl ?_
  refine V.new C (ci := 1) (fs := [.int 0, .null, .int 0]) (iz_Jx4a65c _) tyJx4a65c tyJx4a65c_ok (List.mem_cons_of_mem _ tw_227) (List.mem_cons_of_mem _ tw_228) (List.mem_cons_of_mem _ tw_42) rfl (by intro j hj; rcases (show j = 0 ∨ j = 1 ∨ j = 2 by omega) with rfl | rfl | rfl <;> rfl) (Nat.le_of_ble_eq_true rfl) (Nat.le_of_ble_eq_true rfl) dX10_init_16 (fun q2 => ?_)
  refine V.dup C dX10_init_19 rfl ?_
  refine V.swapw ?_
  refine V.zIvx C ZE (cz_Jx4a65c_init_da8c8) (by first | rfl | exact (List.append_nil _).symm) gi_Jx4a65c_init_da8c8 (List.mem_cons_of_mem _ tw_42) (List.mem_cons_of_mem _ tw_229) (List.mem_cons_of_mem _ tw_230) rfl (n := 0) ⟨by decide, by decide, by decide +kernel⟩ rfl rfl ⟨Nat.le_of_ble_eq_true rfl, Nat.le_of_ble_eq_true rfl⟩ ⟨Nat.le_of_ble_eq_true rfl, Nat.le_of_ble_eq_true rfl⟩ (Nat.le_of_ble_eq_true rfl) rfl dX10_init_20 ?_
  refine V.swapw ?_
  refine V.putF C (q0 := 0) (k := 2) (w' := _) rfl rfl (by decide) (iz_X10 _) (List.mem_cons_of_mem _ tw_75) rfl tyX10 tyX10_ok nmX10 rfl rfl rfl rfl rfl rfl (Nat.le_of_ble_eq_true rfl) rfl dX10_init_23 ?_
  refine V.aload_n C dX10_init_26 rfl ?_
  refine V.new C (ci := 1) (fs := [.int 0, .null, .int 0]) (iz_Jx4a65c _) tyJx4a65c tyJx4a65c_ok (List.mem_cons_of_mem _ tw_227) (List.mem_cons_of_mem _ tw_228) (List.mem_cons_of_mem _ tw_42) rfl (by intro j hj; rcases (show j = 0 ∨ j = 1 ∨ j = 2 by omega) with rfl | rfl | rfl <;> rfl) (Nat.le_of_ble_eq_true rfl) (Nat.le_of_ble_eq_true rfl) dX10_init_27 (fun q3 => ?_)
  refine V.dup C dX10_init_30 rfl ?_
  refine V.swapw ?_
  refine V.zIvx C ZE (cz_Jx4a65c_init_da8c8) (by first | rfl | exact (List.append_nil _).symm) gi_Jx4a65c_init_da8c8 (List.mem_cons_of_mem _ tw_42) (List.mem_cons_of_mem _ tw_229) (List.mem_cons_of_mem _ tw_230) rfl (n := 0) ⟨by decide, by decide, by decide +kernel⟩ rfl rfl ⟨Nat.le_of_ble_eq_true rfl, Nat.le_of_ble_eq_true rfl⟩ ⟨Nat.le_of_ble_eq_true rfl, Nat.le_of_ble_eq_true rfl⟩ (Nat.le_of_ble_eq_true rfl) rfl dX10_init_31 ?_
  refine V.swapw ?_
  refine V.putF C (q0 := 0) (k := 3) (w' := _) rfl rfl (by decide) (iz_X10 _) (List.mem_cons_of_mem _ tw_80) rfl tyX10 tyX10_ok nmX10 rfl rfl rfl rfl rfl rfl (Nat.le_of_ble_eq_true rfl) rfl dX10_init_34 ?_
  refine V.aload_n C dX10_init_37 rfl ?_
  refine V.iconst C (v := 3) dX10_init_38 (by decide) ?_
  refine V.iconst C (v := 2) dX10_init_39 (by decide) ?_
  refine V.mna C ZE (tI := 0) (tT := 2) rfl rfl (List.mem_cons_of_mem _ tw_82) (List.mem_cons_of_mem _ tw_83) (Nat.le_of_ble_eq_true rfl) (Nat.le_of_ble_eq_true rfl) dX10_init_40 (fun q4 => ?_)
  refine V.putF C (q0 := 0) (k := 4) (w' := _) rfl rfl (by decide) (iz_X10 _) (List.mem_cons_of_mem _ tw_92) rfl tyX10 tyX10_ok nmX10 rfl rfl rfl rfl rfl rfl (Nat.le_of_ble_eq_true rfl) rfl dX10_init_44 ?_
  refine V.aload_n C dX10_init_47 rfl ?_
  refine V.new C (ci := 1) (fs := [.int 0, .null, .int 0]) (iz_Jx4a65c _) tyJx4a65c tyJx4a65c_ok (List.mem_cons_of_mem _ tw_227) (List.mem_cons_of_mem _ tw_228) (List.mem_cons_of_mem _ tw_42) rfl (by intro j hj; rcases (show j = 0 ∨ j = 1 ∨ j = 2 by omega) with rfl | rfl | rfl <;> rfl) (Nat.le_of_ble_eq_true rfl) (Nat.le_of_ble_eq_true rfl) dX10_init_48 (fun q5 => ?_)
  refine V.dup C dX10_init_51 rfl ?_
  refine V.swapw ?_
  refine V.zIvx C ZE (cz_Jx4a65c_init_da8c8) (by first | rfl | exact (List.append_nil _).symm) gi_Jx4a65c_init_da8c8 (List.mem_cons_of_mem _ tw_42) (List.mem_cons_of_mem _ tw_229) (List.mem_cons_of_mem _ tw_230) rfl (n := 0) ⟨by decide, by decide, by decide +kernel⟩ rfl rfl ⟨Nat.le_of_ble_eq_true rfl, Nat.le_of_ble_eq_true rfl⟩ ⟨Nat.le_of_ble_eq_true rfl, Nat.le_of_ble_eq_true rfl⟩ (Nat.le_of_ble_eq_true rfl) rfl dX10_init_52 ?_
  refine V.swapw ?_
  refine V.putF C (q0 := 0) (k := 5) (w' := _) rfl rfl (by decide) (iz_X10 _) (List.mem_cons_of_mem _ tw_112) rfl tyX10 tyX10_ok nmX10 rfl rfl rfl rfl rfl rfl (Nat.le_of_ble_eq_true rfl) rfl dX10_init_55 ?_
  refine V.aload_n C dX10_init_58 rfl ?_
  refine V.iconst C (v := nI 3) dX10_init_59 (by decide) ?_
  refine V.put C (q0 := 0) (k := 8) (w' := _) rfl rfl (by decide) (iz_X10 _) (List.mem_cons_of_mem _ tw_179) rfl tyX10 tyX10_ok nmX10 rfl rfl rfl rfl (Nat.le_of_ble_eq_true rfl) rfl dX10_init_60 ?_
  refine V.reord [0, 1, 2, 3, 8, 4, 5, 6, 7] (w' := [(o, .inr (12, [.int (nI 0), .ref q1, .ref q2, .ref q3, .ref q4, .ref q5, .int (nI 0), .int (nI 0), .int (nI 3), .int (nI 0)])), (q1, .inr (1, [.int (nI 0), .ref e0, .int (nI 0)])), (q2, .inr (1, [.int (nI 0), .ref e0, .int (nI 0)])), (q3, .inr (1, [.int (nI 0), .ref e0, .int (nI 0)])), (q5, .inr (1, [.int (nI 0), .ref e0, .int (nI 0)])), (q4, .inl (cII, 3, .inr (.inr (.inr (.inr (fun i => if i < 3 then some (q4 + 1 + i) else none)))))), (q4 + 1, .inl (cI, 2, .inl (fun _ => (0 : Int32)))), (q4 + 2, .inl (cI, 2, .inl (fun _ => (0 : Int32)))), (q4 + 3, .inl (cI, 2, .inl (fun _ => (0 : Int32))))]) rfl (by decide) rfl ?_
  refine V.widen (k := 8) (n := 21) (Nat.le_of_ble_eq_true rfl) (Nat.le_of_ble_eq_true rfl) ?_
  exact hQ _ _ _ _ _ (Or.inl ⟨dX10_init_63, rfl, rfl, rfl⟩) ⟨fun k => match k with | 0 => o | 1 => q1 | 2 => q2 | 3 => q3 | 4 => q5 | _ => q4, rfl, rfl, rfl⟩
