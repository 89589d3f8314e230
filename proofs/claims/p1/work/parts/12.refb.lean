set_option maxRecDepth 100000 in
set_option maxHeartbeats 4000000 in
theorem cz_X10_in {l : Launch} {D : va_G} {cI cL cII cO : ClassId} {e0 : Nat} {g : Nat → Nat} {v : Int32} : CtZ l D (TY cI cL cII cO) e0 yX10_in (Cond.code yX10_in cX10_in 5 (some .int) :: TBL) ({ frames := 3, cells := 1, slots := 4, locals := 69 } : Room) (MF cI cII e0 g ((nI 0))) [.ref (g 0), .int (v)] (fun r z => r = some (.int (nI 0)) ∧ z = (MF cI cII e0 g ((nI 0)))) := by
  refine CtZ.of [some (.ref (g 0)), some (.int (v)), none, none, none] (by decide) rfl rfl (Nat.le_of_ble_eq_true rfl) rfl (fun κ C ZE hQ => ?_)
  refine V.iconst C (v := nI 0) dX10_in_0 (by decide) ?_
  refine V.istore_n C dX10_in_1 (by decide) rfl ?_
  dsimp only [List.set, Fin.val]
  refine V.aload_n C dX10_in_2 rfl ?_
  refine V.get C (q0 := 0) (k := 3) rfl rfl (by decide) (iz_X10 _) (List.mem_cons_of_mem _ tw_80) rfl rfl dX10_in_3 ?_
  refine V.reord [3, 0, 1, 2, 4, 5, 6, 7, 8] (w' := [(g 3, .inr (1, [.int (nI 0), .ref e0, .int (nI 0)])), (g 0, .inr (12, [.int (nI 0), .ref (g 1), .ref (g 2), .ref (g 3), .ref (g 5), .ref (g 4), .int (nI 0), .int (nI 0), .int (nI 3), .int (nI 0)])), (g 1, .inr (1, [.int (nI 0), .ref e0, .int (nI 0)])), (g 2, .inr (1, [.int (nI 0), .ref e0, .int (nI 0)])), (g 4, .inr (1, [.int (nI 0), .ref e0, .int (nI 0)])), (g 5, .inl (cII, 3, .inr (.inr (.inr (.inr (fun i => if i < 3 then some (g 5 + 1 + i) else none)))))), (g 5 + 1, .inl (cI, 2, .inl (fun _ => (0 : Int32)))), (g 5 + 2, .inl (cI, 2, .inl (fun _ => (0 : Int32)))), (g 5 + 3, .inl (cI, 2, .inl (fun _ => (0 : Int32))))]) rfl (by decide) rfl ?_
  refine V.zVqx C ZE (X := [(g 0, .inr (12, [.int (nI 0), .ref (g 1), .ref (g 2), .ref (g 3), .ref (g 5), .ref (g 4), .int (nI 0), .int (nI 0), .int (nI 3), .int (nI 0)])), (g 1, .inr (1, [.int (nI 0), .ref e0, .int (nI 0)])), (g 2, .inr (1, [.int (nI 0), .ref e0, .int (nI 0)])), (g 4, .inr (1, [.int (nI 0), .ref e0, .int (nI 0)])), (g 5, .inl (cII, 3, .inr (.inr (.inr (.inr (fun i => if i < 3 then some (g 5 + 1 + i) else none)))))), (g 5 + 1, .inl (cI, 2, .inl (fun _ => (0 : Int32)))), (g 5 + 2, .inl (cI, 2, .inl (fun _ => (0 : Int32)))), (g 5 + 3, .inl (cI, 2, .inl (fun _ => (0 : Int32))))]) (cz_Jx4a65c_iterator_32c93) rfl gz_X10_109 (n := 0) ⟨rfl, by decide, by decide, by decide +kernel⟩ rfl (q0 := 0) rfl rfl rfl ⟨Nat.le_of_ble_eq_true rfl, Nat.le_of_ble_eq_true rfl⟩ ⟨Nat.le_of_ble_eq_true rfl, Nat.le_of_ble_eq_true rfl⟩ (Nat.le_of_ble_eq_true rfl) rfl dX10_in_6 (fun q1 => ?_)
  refine V.astore_n C dX10_in_9 (by decide) rfl ?_
  dsimp only [List.set, Fin.val]
  refine V.aload_n C dX10_in_10 rfl ?_
  refine V.zFi C ZE (cz_Jx35411_hasNext_aae02 (i := 1) (k := 0) rfl rfl) gz_X10_113 (q0 := 1) rfl rfl ⟨Nat.le_of_ble_eq_true rfl, Nat.le_of_ble_eq_true rfl⟩ ⟨Nat.le_of_ble_eq_true rfl, Nat.le_of_ble_eq_true rfl⟩ (Nat.le_of_ble_eq_true rfl) rfl dX10_in_11 ?_
  refine V.if_eq C (tgt := 50) dX10_in_16 (by decide) (fun c16 => ?_) (fun c16 => ?_)
  rotate_left
  · exfalso; exact absurd c16 (by decide +kernel)
  refine V.iload_n C dX10_in_50 rfl ?_
  refine V.reord [2, 3, 4, 0, 5, 6, 7, 8, 9] (w' := [(g 0, .inr (12, [.int (nI 0), .ref (g 1), .ref (g 2), .ref (g 3), .ref (g 5), .ref (g 4), .int (nI 0), .int (nI 0), .int (nI 3), .int (nI 0)])), (g 1, .inr (1, [.int (nI 0), .ref e0, .int (nI 0)])), (g 2, .inr (1, [.int (nI 0), .ref e0, .int (nI 0)])), (g 3, .inr (1, [.int (nI 0), .ref e0, .int (nI 0)])), (g 4, .inr (1, [.int (nI 0), .ref e0, .int (nI 0)])), (g 5, .inl (cII, 3, .inr (.inr (.inr (.inr (fun i => if i < 3 then some (g 5 + 1 + i) else none)))))), (g 5 + 1, .inl (cI, 2, .inl (fun _ => (0 : Int32)))), (g 5 + 2, .inl (cI, 2, .inl (fun _ => (0 : Int32)))), (g 5 + 3, .inl (cI, 2, .inl (fun _ => (0 : Int32))))]) rfl (by decide) rfl ?_
  refine V.widen (k := 1) (n := 4) (Nat.le_of_ble_eq_true rfl) (Nat.le_of_ble_eq_true rfl) ?_
  exact hQ _ _ _ _ _ (Or.inr (Or.inl ⟨_, _, dX10_in_51, rfl, by first | rfl | exact nar_bI _, rfl, rfl⟩)) ⟨rfl, rfl⟩
set_option maxRecDepth 100000 in
set_option maxHeartbeats 4000000 in
theorem cz_X10_dirty {l : Launch} {D : va_G} {cI cL cII cO : ClassId} {e0 : Nat} {g : Nat → Nat} : CtZ l D (TY cI cL cII cO) e0 yX10_dirty (Cond.code yX10_dirty cX10_dirty 4 (some .int) :: TBL) ({ frames := 3, cells := 1, slots := 4, locals := 69 } : Room) (MF cI cII e0 g ((nI 0))) [.ref (g 0)] (fun r z => r = some (.int (nI 0)) ∧ z = (MF cI cII e0 g ((nI 0)))) := by
  refine CtZ.of [some (.ref (g 0)), none, none, none] (by decide) rfl rfl (Nat.le_of_ble_eq_true rfl) rfl (fun κ C ZE hQ => ?_)
  refine V.iconst C (v := nI 0) dX10_dirty_0 (by decide) ?_
  refine V.istore_n C dX10_dirty_1 (by decide) rfl ?_
  dsimp only [List.set, Fin.val]
  refine V.aload_n C dX10_dirty_2 rfl ?_
  refine V.get C (q0 := 0) (k := 3) rfl rfl (by decide) (iz_X10 _) (List.mem_cons_of_mem _ tw_80) rfl rfl dX10_dirty_3 ?_
  refine V.reord [3, 0, 1, 2, 4, 5, 6, 7, 8] (w' := [(g 3, .inr (1, [.int (nI 0), .ref e0, .int (nI 0)])), (g 0, .inr (12, [.int (nI 0), .ref (g 1), .ref (g 2), .ref (g 3), .ref (g 5), .ref (g 4), .int (nI 0), .int (nI 0), .int (nI 3), .int (nI 0)])), (g 1, .inr (1, [.int (nI 0), .ref e0, .int (nI 0)])), (g 2, .inr (1, [.int (nI 0), .ref e0, .int (nI 0)])), (g 4, .inr (1, [.int (nI 0), .ref e0, .int (nI 0)])), (g 5, .inl (cII, 3, .inr (.inr (.inr (.inr (fun i => if i < 3 then some (g 5 + 1 + i) else none)))))), (g 5 + 1, .inl (cI, 2, .inl (fun _ => (0 : Int32)))), (g 5 + 2, .inl (cI, 2, .inl (fun _ => (0 : Int32)))), (g 5 + 3, .inl (cI, 2, .inl (fun _ => (0 : Int32))))]) rfl (by decide) rfl ?_
  refine V.zVqx C ZE (X := [(g 0, .inr (12, [.int (nI 0), .ref (g 1), .ref (g 2), .ref (g 3), .ref (g 5), .ref (g 4), .int (nI 0), .int (nI 0), .int (nI 3), .int (nI 0)])), (g 1, .inr (1, [.int (nI 0), .ref e0, .int (nI 0)])), (g 2, .inr (1, [.int (nI 0), .ref e0, .int (nI 0)])), (g 4, .inr (1, [.int (nI 0), .ref e0, .int (nI 0)])), (g 5, .inl (cII, 3, .inr (.inr (.inr (.inr (fun i => if i < 3 then some (g 5 + 1 + i) else none)))))), (g 5 + 1, .inl (cI, 2, .inl (fun _ => (0 : Int32)))), (g 5 + 2, .inl (cI, 2, .inl (fun _ => (0 : Int32)))), (g 5 + 3, .inl (cI, 2, .inl (fun _ => (0 : Int32))))]) (cz_Jx4a65c_iterator_32c93) rfl gz_X10_109 (n := 0) ⟨rfl, by decide, by decide, by decide +kernel⟩ rfl (q0 := 0) rfl rfl rfl ⟨Nat.le_of_ble_eq_true rfl, Nat.le_of_ble_eq_true rfl⟩ ⟨Nat.le_of_ble_eq_true rfl, Nat.le_of_ble_eq_true rfl⟩ (Nat.le_of_ble_eq_true rfl) rfl dX10_dirty_6 (fun q1 => ?_)
  refine V.astore_n C dX10_dirty_9 (by decide) rfl ?_
  dsimp only [List.set, Fin.val]
  refine V.aload_n C dX10_dirty_10 rfl ?_
  refine V.zFi C ZE (cz_Jx35411_hasNext_aae02 (i := 1) (k := 0) rfl rfl) gz_X10_113 (q0 := 1) rfl rfl ⟨Nat.le_of_ble_eq_true rfl, Nat.le_of_ble_eq_true rfl⟩ ⟨Nat.le_of_ble_eq_true rfl, Nat.le_of_ble_eq_true rfl⟩ (Nat.le_of_ble_eq_true rfl) rfl dX10_dirty_11 ?_
  refine V.if_eq C (tgt := 47) dX10_dirty_16 (by decide) (fun c16 => ?_) (fun c16 => ?_)
  rotate_left
  · exfalso; exact absurd c16 (by decide +kernel)
  refine V.iload_n C dX10_dirty_47 rfl ?_
  refine V.reord [2, 3, 4, 0, 5, 6, 7, 8, 9] (w' := [(g 0, .inr (12, [.int (nI 0), .ref (g 1), .ref (g 2), .ref (g 3), .ref (g 5), .ref (g 4), .int (nI 0), .int (nI 0), .int (nI 3), .int (nI 0)])), (g 1, .inr (1, [.int (nI 0), .ref e0, .int (nI 0)])), (g 2, .inr (1, [.int (nI 0), .ref e0, .int (nI 0)])), (g 3, .inr (1, [.int (nI 0), .ref e0, .int (nI 0)])), (g 4, .inr (1, [.int (nI 0), .ref e0, .int (nI 0)])), (g 5, .inl (cII, 3, .inr (.inr (.inr (.inr (fun i => if i < 3 then some (g 5 + 1 + i) else none)))))), (g 5 + 1, .inl (cI, 2, .inl (fun _ => (0 : Int32)))), (g 5 + 2, .inl (cI, 2, .inl (fun _ => (0 : Int32)))), (g 5 + 3, .inl (cI, 2, .inl (fun _ => (0 : Int32))))]) rfl (by decide) rfl ?_
  refine V.widen (k := 1) (n := 4) (Nat.le_of_ble_eq_true rfl) (Nat.le_of_ble_eq_true rfl) ?_
  exact hQ _ _ _ _ _ (Or.inr (Or.inl ⟨_, _, dX10_dirty_48, rfl, by first | rfl | exact nar_bI _, rfl, rfl⟩)) ⟨rfl, rfl⟩
set_option maxRecDepth 100000 in
set_option maxHeartbeats 4000000 in
theorem cz_X10_count {l : Launch} {D : va_G} {cI cL cII cO : ClassId} {e0 : Nat} {g : Nat → Nat} {k : Nat} (hk : k < 12) : CtZ l D (TY cI cL cII cO) e0 yX10_count (Cond.code yX10_count cX10_count 5 (some .int) :: TBL) ({ frames := 4, cells := 10, slots := 41, locals := 93 } : Room) (MF cI cII e0 g ((nI 0))) [.ref (g 0), .int (nI k)] (fun r z => r = some (.int (nI 0)) ∧ z = (MF cI cII e0 g ((nI 0)))) := by
  refine CtZ.of [some (.ref (g 0)), some (.int (nI k)), none, none, none] (by decide) rfl rfl (Nat.le_of_ble_eq_true rfl) rfl (fun κ C ZE hQ => ?_)
  refine V.iconst C (v := nI 0) dX10_count_0 (by decide) ?_
  refine V.istore_n C dX10_count_1 (by decide) rfl ?_
  dsimp only [List.set, Fin.val]
  refine V.iconst C (v := nI 0) dX10_count_2 (by decide) ?_
  refine V.istore_n C dX10_count_3 (by decide) rfl ?_
  dsimp only [List.set, Fin.val]
  refine V.iconst C (v := nI 0) dX10_count_4 (by decide) ?_
  refine V.istore C dX10_count_5 (by decide) rfl ?_
  dsimp only [List.set]
  refine V.iload C dX10_count_7 rfl ?_
  refine V.aload_n C dX10_count_9 rfl ?_
  refine V.get C (q0 := 0) (k := 2) rfl rfl (by decide) (iz_X10 _) (List.mem_cons_of_mem _ tw_75) rfl rfl dX10_count_10 ?_
  refine V.zVin C ZE (cz_Jx4a65c_size_8abf5 (k := 2) rfl) gz_X10_41 (n := 0) ⟨rfl, by decide, by decide, by decide +kernel⟩ rfl (q0 := 2) rfl rfl rfl ⟨Nat.le_of_ble_eq_true rfl, Nat.le_of_ble_eq_true rfl⟩ ⟨Nat.le_of_ble_eq_true rfl, Nat.le_of_ble_eq_true rfl⟩ (Nat.le_of_ble_eq_true rfl) rfl dX10_count_13 ?_
  refine V.icmp_ge C (tgt := 61) dX10_count_16 (by decide) (fun c16 => ?_) (fun c16 => ?_)
  rotate_left
  · exfalso; exact absurd c16 (by decide +kernel)
  refine V.bipush C (v := nI 12) dX10_count_61 (by decide) ?_
  refine V.newarrayI C (t0 := 0) (N := 12) rfl rfl (by decide) (List.mem_cons_of_mem _ tw_83) (Nat.le_of_ble_eq_true rfl) (Nat.le_of_ble_eq_true rfl) dX10_count_63 (fun q1 => ?_)
  refine V.dup C dX10_count_65 rfl ?_
  refine V.iconst C (v := nI 0) dX10_count_66 (by decide) ?_
  refine V.aload_n C dX10_count_67 rfl ?_
  refine V.get C (q0 := 0) (k := 1) rfl rfl (by decide) (iz_X10 _) (List.mem_cons_of_mem _ tw_66) rfl rfl dX10_count_68 ?_
  refine V.zVin C ZE (cz_Jx4a65c_size_8abf5 (k := 1) rfl) gz_X10_41 (n := 0) ⟨rfl, by decide, by decide, by decide +kernel⟩ rfl (q0 := 1) rfl rfl rfl ⟨Nat.le_of_ble_eq_true rfl, Nat.le_of_ble_eq_true rfl⟩ ⟨Nat.le_of_ble_eq_true rfl, Nat.le_of_ble_eq_true rfl⟩ (Nat.le_of_ble_eq_true rfl) rfl dX10_count_71 ?_
  refine V.iast C (q0 := 9) (t0 := 0) (w' := _) rfl rfl (j := 0) rfl (by decide) (by decide) rfl dX10_count_74 ?_
  refine V.dup C dX10_count_75 rfl ?_
  refine V.iconst C (v := nI 1) dX10_count_76 (by decide) ?_
  refine V.aload_n C dX10_count_77 rfl ?_
  refine V.get C (q0 := 0) (k := 2) rfl rfl (by decide) (iz_X10 _) (List.mem_cons_of_mem _ tw_75) rfl rfl dX10_count_78 ?_
  refine V.zVin C ZE (cz_Jx4a65c_size_8abf5 (k := 2) rfl) gz_X10_41 (n := 0) ⟨rfl, by decide, by decide, by decide +kernel⟩ rfl (q0 := 2) rfl rfl rfl ⟨Nat.le_of_ble_eq_true rfl, Nat.le_of_ble_eq_true rfl⟩ ⟨Nat.le_of_ble_eq_true rfl, Nat.le_of_ble_eq_true rfl⟩ (Nat.le_of_ble_eq_true rfl) rfl dX10_count_81 ?_
  refine V.iast C (q0 := 9) (t0 := 0) (w' := _) rfl rfl (j := 1) rfl (by decide) (by decide) rfl dX10_count_84 ?_
  refine V.dup C dX10_count_85 rfl ?_
  refine V.iconst C (v := nI 2) dX10_count_86 (by decide) ?_
  refine V.aload_n C dX10_count_87 rfl ?_
  refine V.iconst C (v := nI 0) dX10_count_88 (by decide) ?_
  refine V.zVix C ZE (X := [(q1, .inl (cI, 12, .inl (upd (upd (fun _ => (0 : Int32)) 0 (nI 0)) 1 (nI 0))))]) (cz_X10_in) rfl gz_X10_255 (n := 1) ⟨rfl, by decide, by decide, by decide +kernel⟩ rfl (q0 := 0) rfl rfl rfl ⟨Nat.le_of_ble_eq_true rfl, Nat.le_of_ble_eq_true rfl⟩ ⟨Nat.le_of_ble_eq_true rfl, Nat.le_of_ble_eq_true rfl⟩ (Nat.le_of_ble_eq_true rfl) rfl dX10_count_89 ?_
  refine V.iast C (q0 := 9) (t0 := 0) (w' := _) rfl rfl (j := 2) rfl (by decide) (by decide) rfl dX10_count_92 ?_
  refine V.dup C dX10_count_93 rfl ?_
  refine V.iconst C (v := nI 3) dX10_count_94 (by decide) ?_
  refine V.aload_n C dX10_count_95 rfl ?_
  refine V.iconst C (v := nI 1) dX10_count_96 (by decide) ?_
  refine V.zVix C ZE (X := [(q1, .inl (cI, 12, .inl (upd (upd (upd (fun _ => (0 : Int32)) 0 (nI 0)) 1 (nI 0)) 2 (nI 0))))]) (cz_X10_in) rfl gz_X10_255 (n := 1) ⟨rfl, by decide, by decide, by decide +kernel⟩ rfl (q0 := 0) rfl rfl rfl ⟨Nat.le_of_ble_eq_true rfl, Nat.le_of_ble_eq_true rfl⟩ ⟨Nat.le_of_ble_eq_true rfl, Nat.le_of_ble_eq_true rfl⟩ (Nat.le_of_ble_eq_true rfl) rfl dX10_count_97 ?_
  refine V.iast C (q0 := 9) (t0 := 0) (w' := _) rfl rfl (j := 3) rfl (by decide) (by decide) rfl dX10_count_100 ?_
  refine V.dup C dX10_count_101 rfl ?_
  refine V.iconst C (v := nI 4) dX10_count_102 (by decide) ?_
  refine V.aload_n C dX10_count_103 rfl ?_
  refine V.iconst C (v := nI 2) dX10_count_104 (by decide) ?_
  refine V.zVix C ZE (X := [(q1, .inl (cI, 12, .inl (upd (upd (upd (upd (fun _ => (0 : Int32)) 0 (nI 0)) 1 (nI 0)) 2 (nI 0)) 3 (nI 0))))]) (cz_X10_in) rfl gz_X10_255 (n := 1) ⟨rfl, by decide, by decide, by decide +kernel⟩ rfl (q0 := 0) rfl rfl rfl ⟨Nat.le_of_ble_eq_true rfl, Nat.le_of_ble_eq_true rfl⟩ ⟨Nat.le_of_ble_eq_true rfl, Nat.le_of_ble_eq_true rfl⟩ (Nat.le_of_ble_eq_true rfl) rfl dX10_count_105 ?_
  refine V.iast C (q0 := 9) (t0 := 0) (w' := _) rfl rfl (j := 4) rfl (by decide) (by decide) rfl dX10_count_108 ?_
  refine V.dup C dX10_count_109 rfl ?_
  refine V.iconst C (v := nI 5) dX10_count_110 (by decide) ?_
  refine V.aload_n C dX10_count_111 rfl ?_
  refine V.iconst C (v := nI 3) dX10_count_112 (by decide) ?_
  refine V.zVix C ZE (X := [(q1, .inl (cI, 12, .inl (upd (upd (upd (upd (upd (fun _ => (0 : Int32)) 0 (nI 0)) 1 (nI 0)) 2 (nI 0)) 3 (nI 0)) 4 (nI 0))))]) (cz_X10_in) rfl gz_X10_255 (n := 1) ⟨rfl, by decide, by decide, by decide +kernel⟩ rfl (q0 := 0) rfl rfl rfl ⟨Nat.le_of_ble_eq_true rfl, Nat.le_of_ble_eq_true rfl⟩ ⟨Nat.le_of_ble_eq_true rfl, Nat.le_of_ble_eq_true rfl⟩ (Nat.le_of_ble_eq_true rfl) rfl dX10_count_113 ?_
  refine V.iast C (q0 := 9) (t0 := 0) (w' := _) rfl rfl (j := 5) rfl (by decide) (by decide) rfl dX10_count_116 ?_
  refine V.dup C dX10_count_117 rfl ?_
  refine V.bipush C (v := nI 6) dX10_count_118 (by decide) ?_
  refine V.aload_n C dX10_count_120 rfl ?_
  refine V.get C (q0 := 0) (k := 4) rfl rfl (by decide) (iz_X10 _) (List.mem_cons_of_mem _ tw_92) rfl rfl dX10_count_121 ?_
  refine V.zSix C ZE (X := [(q1, .inl (cI, 12, .inl (upd (upd (upd (upd (upd (upd (fun _ => (0 : Int32)) 0 (nI 0)) 1 (nI 0)) 2 (nI 0)) 3 (nI 0)) 4 (nI 0)) 5 (nI 0))))]) (cz_X10_sum) rfl gz_X10_138 (n := 1) ⟨by decide, by decide, by decide +kernel⟩ rfl rfl ⟨Nat.le_of_ble_eq_true rfl, Nat.le_of_ble_eq_true rfl⟩ ⟨Nat.le_of_ble_eq_true rfl, Nat.le_of_ble_eq_true rfl⟩ (Nat.le_of_ble_eq_true rfl) rfl dX10_count_124 ?_
  refine V.iast C (q0 := 9) (t0 := 0) (w' := _) rfl rfl (j := 6) rfl (by decide) (by decide) rfl dX10_count_127 ?_
  refine V.dup C dX10_count_128 rfl ?_
  refine V.bipush C (v := nI 7) dX10_count_129 (by decide) ?_
  refine V.aload_n C dX10_count_131 rfl ?_
  refine V.aload_n C dX10_count_132 rfl ?_
  refine V.iconst C (v := nI 0) dX10_count_133 (by decide) ?_
  refine V.zVqx C ZE (X := [(q1, .inl (cI, 12, .inl (upd (upd (upd (upd (upd (upd (upd (fun _ => (0 : Int32)) 0 (nI 0)) 1 (nI 0)) 2 (nI 0)) 3 (nI 0)) 4 (nI 0)) 5 (nI 0)) 6 (nI 0))))]) (cz_X10_filled) rfl gz_X10_148 (n := 1) ⟨rfl, by decide, by decide, by decide +kernel⟩ rfl (q0 := 0) rfl rfl rfl ⟨Nat.le_of_ble_eq_true rfl, Nat.le_of_ble_eq_true rfl⟩ ⟨Nat.le_of_ble_eq_true rfl, Nat.le_of_ble_eq_true rfl⟩ (Nat.le_of_ble_eq_true rfl) rfl dX10_count_134 (fun q2 => ?_)
  refine V.zVix C ZE (X := [(q1, .inl (cI, 12, .inl (upd (upd (upd (upd (upd (upd (upd (fun _ => (0 : Int32)) 0 (nI 0)) 1 (nI 0)) 2 (nI 0)) 3 (nI 0)) 4 (nI 0)) 5 (nI 0)) 6 (nI 0))))]) (cz_X10_open) rfl gz_X10_258 (n := 1) ⟨rfl, by decide, by decide, by decide +kernel⟩ rfl (q0 := 0) rfl rfl rfl ⟨Nat.le_of_ble_eq_true rfl, Nat.le_of_ble_eq_true rfl⟩ ⟨Nat.le_of_ble_eq_true rfl, Nat.le_of_ble_eq_true rfl⟩ (Nat.le_of_ble_eq_true rfl) rfl dX10_count_137 ?_
  refine V.iast C (q0 := 13) (t0 := 0) (w' := _) rfl rfl (j := 7) rfl (by decide) (by decide) rfl dX10_count_140 ?_
  refine V.dup C dX10_count_141 rfl ?_
  refine V.bipush C (v := nI 8) dX10_count_142 (by decide) ?_
  refine V.iload_n C dX10_count_144 rfl ?_
  refine V.iast C (q0 := 13) (t0 := 0) (w' := _) rfl rfl (j := 8) rfl (by decide) (by decide) rfl dX10_count_145 ?_
  refine V.dup C dX10_count_146 rfl ?_
  refine V.bipush C (v := nI 9) dX10_count_147 (by decide) ?_
  refine V.iload_n C dX10_count_149 rfl ?_
  refine V.iast C (q0 := 13) (t0 := 0) (w' := _) rfl rfl (j := 9) rfl (by decide) (by decide) rfl dX10_count_150 ?_
  refine V.dup C dX10_count_151 rfl ?_
  refine V.bipush C (v := nI 10) dX10_count_152 (by decide) ?_
  refine V.aload_n C dX10_count_154 rfl ?_
  refine V.get C (q0 := 0) (k := 5) rfl rfl (by decide) (iz_X10 _) (List.mem_cons_of_mem _ tw_112) rfl rfl dX10_count_155 ?_
  refine V.zVin C ZE (cz_Jx4a65c_size_8abf5 (k := 4) rfl) gz_X10_41 (n := 0) ⟨rfl, by decide, by decide, by decide +kernel⟩ rfl (q0 := 4) rfl rfl rfl ⟨Nat.le_of_ble_eq_true rfl, Nat.le_of_ble_eq_true rfl⟩ ⟨Nat.le_of_ble_eq_true rfl, Nat.le_of_ble_eq_true rfl⟩ (Nat.le_of_ble_eq_true rfl) rfl dX10_count_158 ?_
  refine V.iast C (q0 := 13) (t0 := 0) (w' := _) rfl rfl (j := 10) rfl (by decide) (by decide) rfl dX10_count_161 ?_
  refine V.dup C dX10_count_162 rfl ?_
  refine V.bipush C (v := nI 11) dX10_count_163 (by decide) ?_
  refine V.aload_n C dX10_count_165 rfl ?_
  refine V.get C (q0 := 0) (k := 9) rfl rfl (by decide) (iz_X10 _) (List.mem_cons_of_mem _ tw_113) rfl rfl dX10_count_166 ?_
  refine V.iast C (q0 := 13) (t0 := 0) (w' := _) rfl rfl (j := 11) rfl (by decide) (by decide) rfl dX10_count_169 ?_
  refine V.astore C dX10_count_170 (by decide) rfl ?_
  dsimp only [List.set]
  refine V.aload C dX10_count_172 rfl ?_
  refine V.iload_n C dX10_count_174 rfl ?_
  refine V.iald C (q0 := 13) (t0 := 0) rfl rfl rfl (hk) (by decide) dX10_count_175 ?_
  refine V.topi (y := nI 0) (by simp [upd, nI_0]) ?_
  refine V.reord [0, 1, 2, 3, 4, 5, 6, 7, 8] (w' := [(g 0, .inr (12, [.int (nI 0), .ref (g 1), .ref (g 2), .ref (g 3), .ref (g 5), .ref (g 4), .int (nI 0), .int (nI 0), .int (nI 3), .int (nI 0)])), (g 1, .inr (1, [.int (nI 0), .ref e0, .int (nI 0)])), (g 2, .inr (1, [.int (nI 0), .ref e0, .int (nI 0)])), (g 3, .inr (1, [.int (nI 0), .ref e0, .int (nI 0)])), (g 4, .inr (1, [.int (nI 0), .ref e0, .int (nI 0)])), (g 5, .inl (cII, 3, .inr (.inr (.inr (.inr (fun i => if i < 3 then some (g 5 + 1 + i) else none)))))), (g 5 + 1, .inl (cI, 2, .inl (fun _ => (0 : Int32)))), (g 5 + 2, .inl (cI, 2, .inl (fun _ => (0 : Int32)))), (g 5 + 3, .inl (cI, 2, .inl (fun _ => (0 : Int32))))]) rfl (by decide) rfl ?_
  refine V.widen (k := 10) (n := 41) (Nat.le_of_ble_eq_true rfl) (Nat.le_of_ble_eq_true rfl) ?_
  exact hQ _ _ _ _ _ (Or.inr (Or.inl ⟨_, _, dX10_count_176, rfl, by first | rfl | exact nar_bI _, rfl, rfl⟩)) ⟨rfl, rfl⟩
set_option maxRecDepth 100000 in
set_option maxHeartbeats 4000000 in
theorem cz_X10_ofCellNow_00 {l : Launch} {D : va_G} {cI cL cII cO : ClassId} {e0 : Nat} {g : Nat → Nat} {v : Int32} : CtZ l D (TY cI cL cII cO) e0 yX10_ofCellNow (Cond.code yX10_ofCellNow cX10_ofCellNow 7 (some .int) :: TBL) ({ frames := 4, cells := 5, slots := 13, locals := 93 } : Room) (MF cI cII e0 g ((nI 0))) [.ref (g 0), .int (nI 0), .int (nI 0), .int (v)] (fun r z => r = some (.int (nI 0)) ∧ z = (MF cI cII e0 g ((nI 0)))) := by
  refine CtZ.of [some (.ref (g 0)), some (.int (nI 0)), some (.int (nI 0)), some (.int (v)), none, none, none] (by decide) rfl rfl (Nat.le_of_ble_eq_true rfl) rfl (fun κ C ZE hQ => ?_)
  refine V.aload_n C dX10_ofCellNow_0 rfl ?_
  refine V.iconst C (v := nI 0) dX10_ofCellNow_1 (by decide) ?_
  refine V.zVqx C ZE (X := []) (cz_X10_filled) (by first | rfl | exact (List.append_nil _).symm) gz_X10_148 (n := 1) ⟨rfl, by decide, by decide, by decide +kernel⟩ rfl (q0 := 0) rfl rfl rfl ⟨Nat.le_of_ble_eq_true rfl, Nat.le_of_ble_eq_true rfl⟩ ⟨Nat.le_of_ble_eq_true rfl, Nat.le_of_ble_eq_true rfl⟩ (Nat.le_of_ble_eq_true rfl) rfl dX10_ofCellNow_2 (fun q1 => ?_)
  refine V.astore C dX10_ofCellNow_5 (by decide) rfl ?_
  dsimp only [List.set]
  refine V.iload_n C dX10_ofCellNow_7 rfl ?_
  refine V.if_ne C (tgt := 20) dX10_ofCellNow_8 (by decide) (fun c8 => ?_) (fun c8 => ?_)
  · skip
    refine V.iload_n C dX10_ofCellNow_20 rfl ?_
    refine V.iconst C (v := nI 1) dX10_ofCellNow_21 (by decide) ?_
    refine V.icmp_ne C (tgt := 32) dX10_ofCellNow_22 (by decide) (fun c22 => ?_) (fun c22 => ?_)
    · skip
      refine V.iload_n C dX10_ofCellNow_32 rfl ?_
      refine V.iconst C (v := nI 2) dX10_ofCellNow_33 (by decide) ?_
      refine V.icmp_ne C (tgt := 54) dX10_ofCellNow_34 (by decide) (fun c34 => ?_) (fun c34 => ?_)
      · skip
        refine V.iconst C (v := nI 0) dX10_ofCellNow_54 (by decide) ?_
        refine V.istore C dX10_ofCellNow_55 (by decide) rfl ?_
        dsimp only [List.set]
        refine V.iconst C (v := nI 0) dX10_ofCellNow_57 (by decide) ?_
        refine V.istore C dX10_ofCellNow_58 (by decide) rfl ?_
        dsimp only [List.set]
        refine V.iload C dX10_ofCellNow_60 rfl ?_
        refine V.aload_n C dX10_ofCellNow_62 rfl ?_
        refine V.get C (q0 := 0) (k := 2) rfl rfl (by decide) (iz_X10 _) (List.mem_cons_of_mem _ tw_75) rfl rfl dX10_ofCellNow_63 ?_
        refine V.zVin C ZE (cz_Jx4a65c_size_8abf5 (k := 2) rfl) gz_X10_41 (n := 0) ⟨rfl, by decide, by decide, by decide +kernel⟩ rfl (q0 := 2) rfl rfl rfl ⟨Nat.le_of_ble_eq_true rfl, Nat.le_of_ble_eq_true rfl⟩ ⟨Nat.le_of_ble_eq_true rfl, Nat.le_of_ble_eq_true rfl⟩ (Nat.le_of_ble_eq_true rfl) rfl dX10_ofCellNow_66 ?_
        refine V.icmp_ge C (tgt := 123) dX10_ofCellNow_69 (by decide) (fun c69 => ?_) (fun c69 => ?_)
        rotate_left
        · exfalso; exact absurd c69 (by decide +kernel)
        refine V.iload C dX10_ofCellNow_123 rfl ?_
        refine V.reord [0, 1, 2, 3, 4, 5, 6, 7, 8] (w' := [(g 0, .inr (12, [.int (nI 0), .ref (g 1), .ref (g 2), .ref (g 3), .ref (g 5), .ref (g 4), .int (nI 0), .int (nI 0), .int (nI 3), .int (nI 0)])), (g 1, .inr (1, [.int (nI 0), .ref e0, .int (nI 0)])), (g 2, .inr (1, [.int (nI 0), .ref e0, .int (nI 0)])), (g 3, .inr (1, [.int (nI 0), .ref e0, .int (nI 0)])), (g 4, .inr (1, [.int (nI 0), .ref e0, .int (nI 0)])), (g 5, .inl (cII, 3, .inr (.inr (.inr (.inr (fun i => if i < 3 then some (g 5 + 1 + i) else none)))))), (g 5 + 1, .inl (cI, 2, .inl (fun _ => (0 : Int32)))), (g 5 + 2, .inl (cI, 2, .inl (fun _ => (0 : Int32)))), (g 5 + 3, .inl (cI, 2, .inl (fun _ => (0 : Int32))))]) rfl (by decide) rfl ?_
        refine V.widen (k := 5) (n := 13) (Nat.le_of_ble_eq_true rfl) (Nat.le_of_ble_eq_true rfl) ?_
        exact hQ _ _ _ _ _ (Or.inr (Or.inl ⟨_, _, dX10_ofCellNow_125, rfl, by first | rfl | exact nar_bI _, rfl, rfl⟩)) ⟨rfl, rfl⟩
      · skip
        refine V.aload_n C dX10_ofCellNow_37 rfl ?_
        refine V.aload C dX10_ofCellNow_38 rfl ?_
        refine V.iload_n C dX10_ofCellNow_40 rfl ?_
        refine V.iload_n C dX10_ofCellNow_41 rfl ?_
        refine V.zVin C ZE (cz_X10_isOpen_00 (k := 9) rfl rfl rfl rfl rfl) gz_X10_152 (n := 3) ⟨rfl, by decide, by decide, by decide +kernel⟩ rfl (q0 := 0) rfl rfl rfl ⟨Nat.le_of_ble_eq_true rfl, Nat.le_of_ble_eq_true rfl⟩ ⟨Nat.le_of_ble_eq_true rfl, Nat.le_of_ble_eq_true rfl⟩ (Nat.le_of_ble_eq_true rfl) rfl dX10_ofCellNow_42 ?_
        refine V.if_eq C (tgt := 52) dX10_ofCellNow_45 (by decide) (fun c45 => ?_) (fun c45 => ?_)
        rotate_left
        · exfalso; exact absurd c45 (by decide +kernel)
        refine V.iconst C (v := nI 0) dX10_ofCellNow_52 (by decide) ?_
        refine V.reord [0, 1, 2, 3, 4, 5, 6, 7, 8] (w' := [(g 0, .inr (12, [.int (nI 0), .ref (g 1), .ref (g 2), .ref (g 3), .ref (g 5), .ref (g 4), .int (nI 0), .int (nI 0), .int (nI 3), .int (nI 0)])), (g 1, .inr (1, [.int (nI 0), .ref e0, .int (nI 0)])), (g 2, .inr (1, [.int (nI 0), .ref e0, .int (nI 0)])), (g 3, .inr (1, [.int (nI 0), .ref e0, .int (nI 0)])), (g 4, .inr (1, [.int (nI 0), .ref e0, .int (nI 0)])), (g 5, .inl (cII, 3, .inr (.inr (.inr (.inr (fun i => if i < 3 then some (g 5 + 1 + i) else none)))))), (g 5 + 1, .inl (cI, 2, .inl (fun _ => (0 : Int32)))), (g 5 + 2, .inl (cI, 2, .inl (fun _ => (0 : Int32)))), (g 5 + 3, .inl (cI, 2, .inl (fun _ => (0 : Int32))))]) rfl (by decide) rfl ?_
        refine V.widen (k := 5) (n := 13) (Nat.le_of_ble_eq_true rfl) (Nat.le_of_ble_eq_true rfl) ?_
        exact hQ _ _ _ _ _ (Or.inr (Or.inl ⟨_, _, dX10_ofCellNow_53, rfl, by first | rfl | exact nar_bI _, rfl, rfl⟩)) ⟨rfl, rfl⟩
    · skip
      refine V.aload C dX10_ofCellNow_25 rfl ?_
      refine V.iload_n C dX10_ofCellNow_27 rfl ?_
      refine V.aaldA C (q0 := 9) (t0 := 2) (j := 0) (r := q1 + 1) rfl rfl rfl (by decide) (by decide) rfl dX10_ofCellNow_28 ?_
      refine V.iload_n C dX10_ofCellNow_29 rfl ?_
      refine V.iald C (q0 := 10) (t0 := 0) rfl rfl rfl (by decide) (by decide) dX10_ofCellNow_30 ?_
      refine V.topi (y := nI 0) (by first | rfl | simp [upd, nI_0]) ?_
      refine V.reord [0, 1, 2, 3, 4, 5, 6, 7, 8] (w' := [(g 0, .inr (12, [.int (nI 0), .ref (g 1), .ref (g 2), .ref (g 3), .ref (g 5), .ref (g 4), .int (nI 0), .int (nI 0), .int (nI 3), .int (nI 0)])), (g 1, .inr (1, [.int (nI 0), .ref e0, .int (nI 0)])), (g 2, .inr (1, [.int (nI 0), .ref e0, .int (nI 0)])), (g 3, .inr (1, [.int (nI 0), .ref e0, .int (nI 0)])), (g 4, .inr (1, [.int (nI 0), .ref e0, .int (nI 0)])), (g 5, .inl (cII, 3, .inr (.inr (.inr (.inr (fun i => if i < 3 then some (g 5 + 1 + i) else none)))))), (g 5 + 1, .inl (cI, 2, .inl (fun _ => (0 : Int32)))), (g 5 + 2, .inl (cI, 2, .inl (fun _ => (0 : Int32)))), (g 5 + 3, .inl (cI, 2, .inl (fun _ => (0 : Int32))))]) rfl (by decide) rfl ?_
      refine V.widen (k := 5) (n := 13) (Nat.le_of_ble_eq_true rfl) (Nat.le_of_ble_eq_true rfl) ?_
      exact hQ _ _ _ _ _ (Or.inr (Or.inl ⟨_, _, dX10_ofCellNow_31, rfl, by first | rfl | exact nar_bI _, rfl, rfl⟩)) ⟨rfl, rfl⟩
  · skip
    refine V.aload_n C dX10_ofCellNow_11 rfl ?_
    refine V.get C (q0 := 0) (k := 4) rfl rfl (by decide) (iz_X10 _) (List.mem_cons_of_mem _ tw_92) rfl rfl dX10_ofCellNow_12 ?_
    refine V.iload_n C dX10_ofCellNow_15 rfl ?_
    refine V.aaldA C (q0 := 5) (t0 := 2) (j := 0) (r := g 5 + 1) rfl rfl rfl (by decide) (by decide) rfl dX10_ofCellNow_16 ?_
    refine V.iload_n C dX10_ofCellNow_17 rfl ?_
    refine V.iald C (q0 := 6) (t0 := 0) rfl rfl rfl (by decide) (by decide) dX10_ofCellNow_18 ?_
    refine V.topi (y := nI 0) (by first | rfl | simp [upd, nI_0]) ?_
    refine V.reord [0, 1, 2, 3, 4, 5, 6, 7, 8] (w' := [(g 0, .inr (12, [.int (nI 0), .ref (g 1), .ref (g 2), .ref (g 3), .ref (g 5), .ref (g 4), .int (nI 0), .int (nI 0), .int (nI 3), .int (nI 0)])), (g 1, .inr (1, [.int (nI 0), .ref e0, .int (nI 0)])), (g 2, .inr (1, [.int (nI 0), .ref e0, .int (nI 0)])), (g 3, .inr (1, [.int (nI 0), .ref e0, .int (nI 0)])), (g 4, .inr (1, [.int (nI 0), .ref e0, .int (nI 0)])), (g 5, .inl (cII, 3, .inr (.inr (.inr (.inr (fun i => if i < 3 then some (g 5 + 1 + i) else none)))))), (g 5 + 1, .inl (cI, 2, .inl (fun _ => (0 : Int32)))), (g 5 + 2, .inl (cI, 2, .inl (fun _ => (0 : Int32)))), (g 5 + 3, .inl (cI, 2, .inl (fun _ => (0 : Int32))))]) rfl (by decide) rfl ?_
    refine V.widen (k := 5) (n := 13) (Nat.le_of_ble_eq_true rfl) (Nat.le_of_ble_eq_true rfl) ?_
    exact hQ _ _ _ _ _ (Or.inr (Or.inl ⟨_, _, dX10_ofCellNow_19, rfl, by first | rfl | exact nar_bI _, rfl, rfl⟩)) ⟨rfl, rfl⟩
set_option maxRecDepth 100000 in
set_option maxHeartbeats 4000000 in
theorem cz_X10_ofCellNow_01 {l : Launch} {D : va_G} {cI cL cII cO : ClassId} {e0 : Nat} {g : Nat → Nat} {v : Int32} : CtZ l D (TY cI cL cII cO) e0 yX10_ofCellNow (Cond.code yX10_ofCellNow cX10_ofCellNow 7 (some .int) :: TBL) ({ frames := 4, cells := 5, slots := 13, locals := 93 } : Room) (MF cI cII e0 g ((nI 0))) [.ref (g 0), .int (nI 0), .int (nI 1), .int (v)] (fun r z => r = some (.int (nI 0)) ∧ z = (MF cI cII e0 g ((nI 0)))) := by
  refine CtZ.of [some (.ref (g 0)), some (.int (nI 0)), some (.int (nI 1)), some (.int (v)), none, none, none] (by decide) rfl rfl (Nat.le_of_ble_eq_true rfl) rfl (fun κ C ZE hQ => ?_)
  refine V.aload_n C dX10_ofCellNow_0 rfl ?_
  refine V.iconst C (v := nI 0) dX10_ofCellNow_1 (by decide) ?_
  refine V.zVqx C ZE (X := []) (cz_X10_filled) (by first | rfl | exact (List.append_nil _).symm) gz_X10_148 (n := 1) ⟨rfl, by decide, by decide, by decide +kernel⟩ rfl (q0 := 0) rfl rfl rfl ⟨Nat.le_of_ble_eq_true rfl, Nat.le_of_ble_eq_true rfl⟩ ⟨Nat.le_of_ble_eq_true rfl, Nat.le_of_ble_eq_true rfl⟩ (Nat.le_of_ble_eq_true rfl) rfl dX10_ofCellNow_2 (fun q1 => ?_)
  refine V.astore C dX10_ofCellNow_5 (by decide) rfl ?_
  dsimp only [List.set]
  refine V.iload_n C dX10_ofCellNow_7 rfl ?_
  refine V.if_ne C (tgt := 20) dX10_ofCellNow_8 (by decide) (fun c8 => ?_) (fun c8 => ?_)
  · skip
    refine V.iload_n C dX10_ofCellNow_20 rfl ?_
    refine V.iconst C (v := nI 1) dX10_ofCellNow_21 (by decide) ?_
    refine V.icmp_ne C (tgt := 32) dX10_ofCellNow_22 (by decide) (fun c22 => ?_) (fun c22 => ?_)
    · skip
      refine V.iload_n C dX10_ofCellNow_32 rfl ?_
      refine V.iconst C (v := nI 2) dX10_ofCellNow_33 (by decide) ?_
      refine V.icmp_ne C (tgt := 54) dX10_ofCellNow_34 (by decide) (fun c34 => ?_) (fun c34 => ?_)
      · skip
        refine V.iconst C (v := nI 0) dX10_ofCellNow_54 (by decide) ?_
        refine V.istore C dX10_ofCellNow_55 (by decide) rfl ?_
        dsimp only [List.set]
        refine V.iconst C (v := nI 0) dX10_ofCellNow_57 (by decide) ?_
        refine V.istore C dX10_ofCellNow_58 (by decide) rfl ?_
        dsimp only [List.set]
        refine V.iload C dX10_ofCellNow_60 rfl ?_
        refine V.aload_n C dX10_ofCellNow_62 rfl ?_
        refine V.get C (q0 := 0) (k := 2) rfl rfl (by decide) (iz_X10 _) (List.mem_cons_of_mem _ tw_75) rfl rfl dX10_ofCellNow_63 ?_
        refine V.zVin C ZE (cz_Jx4a65c_size_8abf5 (k := 2) rfl) gz_X10_41 (n := 0) ⟨rfl, by decide, by decide, by decide +kernel⟩ rfl (q0 := 2) rfl rfl rfl ⟨Nat.le_of_ble_eq_true rfl, Nat.le_of_ble_eq_true rfl⟩ ⟨Nat.le_of_ble_eq_true rfl, Nat.le_of_ble_eq_true rfl⟩ (Nat.le_of_ble_eq_true rfl) rfl dX10_ofCellNow_66 ?_
        refine V.icmp_ge C (tgt := 123) dX10_ofCellNow_69 (by decide) (fun c69 => ?_) (fun c69 => ?_)
        rotate_left
        · exfalso; exact absurd c69 (by decide +kernel)
        refine V.iload C dX10_ofCellNow_123 rfl ?_
        refine V.reord [0, 1, 2, 3, 4, 5, 6, 7, 8] (w' := [(g 0, .inr (12, [.int (nI 0), .ref (g 1), .ref (g 2), .ref (g 3), .ref (g 5), .ref (g 4), .int (nI 0), .int (nI 0), .int (nI 3), .int (nI 0)])), (g 1, .inr (1, [.int (nI 0), .ref e0, .int (nI 0)])), (g 2, .inr (1, [.int (nI 0), .ref e0, .int (nI 0)])), (g 3, .inr (1, [.int (nI 0), .ref e0, .int (nI 0)])), (g 4, .inr (1, [.int (nI 0), .ref e0, .int (nI 0)])), (g 5, .inl (cII, 3, .inr (.inr (.inr (.inr (fun i => if i < 3 then some (g 5 + 1 + i) else none)))))), (g 5 + 1, .inl (cI, 2, .inl (fun _ => (0 : Int32)))), (g 5 + 2, .inl (cI, 2, .inl (fun _ => (0 : Int32)))), (g 5 + 3, .inl (cI, 2, .inl (fun _ => (0 : Int32))))]) rfl (by decide) rfl ?_
        refine V.widen (k := 5) (n := 13) (Nat.le_of_ble_eq_true rfl) (Nat.le_of_ble_eq_true rfl) ?_
        exact hQ _ _ _ _ _ (Or.inr (Or.inl ⟨_, _, dX10_ofCellNow_125, rfl, by first | rfl | exact nar_bI _, rfl, rfl⟩)) ⟨rfl, rfl⟩
      · skip
        refine V.aload_n C dX10_ofCellNow_37 rfl ?_
        refine V.aload C dX10_ofCellNow_38 rfl ?_
        refine V.iload_n C dX10_ofCellNow_40 rfl ?_
        refine V.iload_n C dX10_ofCellNow_41 rfl ?_
        refine V.zVin C ZE (cz_X10_isOpen_01 (k := 9) rfl rfl rfl rfl rfl) gz_X10_152 (n := 3) ⟨rfl, by decide, by decide, by decide +kernel⟩ rfl (q0 := 0) rfl rfl rfl ⟨Nat.le_of_ble_eq_true rfl, Nat.le_of_ble_eq_true rfl⟩ ⟨Nat.le_of_ble_eq_true rfl, Nat.le_of_ble_eq_true rfl⟩ (Nat.le_of_ble_eq_true rfl) rfl dX10_ofCellNow_42 ?_
        refine V.if_eq C (tgt := 52) dX10_ofCellNow_45 (by decide) (fun c45 => ?_) (fun c45 => ?_)
        rotate_left
        · exfalso; exact absurd c45 (by decide +kernel)
        refine V.iconst C (v := nI 0) dX10_ofCellNow_52 (by decide) ?_
        refine V.reord [0, 1, 2, 3, 4, 5, 6, 7, 8] (w' := [(g 0, .inr (12, [.int (nI 0), .ref (g 1), .ref (g 2), .ref (g 3), .ref (g 5), .ref (g 4), .int (nI 0), .int (nI 0), .int (nI 3), .int (nI 0)])), (g 1, .inr (1, [.int (nI 0), .ref e0, .int (nI 0)])), (g 2, .inr (1, [.int (nI 0), .ref e0, .int (nI 0)])), (g 3, .inr (1, [.int (nI 0), .ref e0, .int (nI 0)])), (g 4, .inr (1, [.int (nI 0), .ref e0, .int (nI 0)])), (g 5, .inl (cII, 3, .inr (.inr (.inr (.inr (fun i => if i < 3 then some (g 5 + 1 + i) else none)))))), (g 5 + 1, .inl (cI, 2, .inl (fun _ => (0 : Int32)))), (g 5 + 2, .inl (cI, 2, .inl (fun _ => (0 : Int32)))), (g 5 + 3, .inl (cI, 2, .inl (fun _ => (0 : Int32))))]) rfl (by decide) rfl ?_
        refine V.widen (k := 5) (n := 13) (Nat.le_of_ble_eq_true rfl) (Nat.le_of_ble_eq_true rfl) ?_
        exact hQ _ _ _ _ _ (Or.inr (Or.inl ⟨_, _, dX10_ofCellNow_53, rfl, by first | rfl | exact nar_bI _, rfl, rfl⟩)) ⟨rfl, rfl⟩
    · skip
      refine V.aload C dX10_ofCellNow_25 rfl ?_
      refine V.iload_n C dX10_ofCellNow_27 rfl ?_
      refine V.aaldA C (q0 := 9) (t0 := 2) (j := 0) (r := q1 + 1) rfl rfl rfl (by decide) (by decide) rfl dX10_ofCellNow_28 ?_
      refine V.iload_n C dX10_ofCellNow_29 rfl ?_
      refine V.iald C (q0 := 10) (t0 := 0) rfl rfl rfl (by decide) (by decide) dX10_ofCellNow_30 ?_
      refine V.topi (y := nI 0) (by first | rfl | simp [upd, nI_0]) ?_
      refine V.reord [0, 1, 2, 3, 4, 5, 6, 7, 8] (w' := [(g 0, .inr (12, [.int (nI 0), .ref (g 1), .ref (g 2), .ref (g 3), .ref (g 5), .ref (g 4), .int (nI 0), .int (nI 0), .int (nI 3), .int (nI 0)])), (g 1, .inr (1, [.int (nI 0), .ref e0, .int (nI 0)])), (g 2, .inr (1, [.int (nI 0), .ref e0, .int (nI 0)])), (g 3, .inr (1, [.int (nI 0), .ref e0, .int (nI 0)])), (g 4, .inr (1, [.int (nI 0), .ref e0, .int (nI 0)])), (g 5, .inl (cII, 3, .inr (.inr (.inr (.inr (fun i => if i < 3 then some (g 5 + 1 + i) else none)))))), (g 5 + 1, .inl (cI, 2, .inl (fun _ => (0 : Int32)))), (g 5 + 2, .inl (cI, 2, .inl (fun _ => (0 : Int32)))), (g 5 + 3, .inl (cI, 2, .inl (fun _ => (0 : Int32))))]) rfl (by decide) rfl ?_
      refine V.widen (k := 5) (n := 13) (Nat.le_of_ble_eq_true rfl) (Nat.le_of_ble_eq_true rfl) ?_
      exact hQ _ _ _ _ _ (Or.inr (Or.inl ⟨_, _, dX10_ofCellNow_31, rfl, by first | rfl | exact nar_bI _, rfl, rfl⟩)) ⟨rfl, rfl⟩
  · skip
    refine V.aload_n C dX10_ofCellNow_11 rfl ?_
    refine V.get C (q0 := 0) (k := 4) rfl rfl (by decide) (iz_X10 _) (List.mem_cons_of_mem _ tw_92) rfl rfl dX10_ofCellNow_12 ?_
    refine V.iload_n C dX10_ofCellNow_15 rfl ?_
    refine V.aaldA C (q0 := 5) (t0 := 2) (j := 0) (r := g 5 + 1) rfl rfl rfl (by decide) (by decide) rfl dX10_ofCellNow_16 ?_
    refine V.iload_n C dX10_ofCellNow_17 rfl ?_
    refine V.iald C (q0 := 6) (t0 := 0) rfl rfl rfl (by decide) (by decide) dX10_ofCellNow_18 ?_
    refine V.topi (y := nI 0) (by first | rfl | simp [upd, nI_0]) ?_
    refine V.reord [0, 1, 2, 3, 4, 5, 6, 7, 8] (w' := [(g 0, .inr (12, [.int (nI 0), .ref (g 1), .ref (g 2), .ref (g 3), .ref (g 5), .ref (g 4), .int (nI 0), .int (nI 0), .int (nI 3), .int (nI 0)])), (g 1, .inr (1, [.int (nI 0), .ref e0, .int (nI 0)])), (g 2, .inr (1, [.int (nI 0), .ref e0, .int (nI 0)])), (g 3, .inr (1, [.int (nI 0), .ref e0, .int (nI 0)])), (g 4, .inr (1, [.int (nI 0), .ref e0, .int (nI 0)])), (g 5, .inl (cII, 3, .inr (.inr (.inr (.inr (fun i => if i < 3 then some (g 5 + 1 + i) else none)))))), (g 5 + 1, .inl (cI, 2, .inl (fun _ => (0 : Int32)))), (g 5 + 2, .inl (cI, 2, .inl (fun _ => (0 : Int32)))), (g 5 + 3, .inl (cI, 2, .inl (fun _ => (0 : Int32))))]) rfl (by decide) rfl ?_
    refine V.widen (k := 5) (n := 13) (Nat.le_of_ble_eq_true rfl) (Nat.le_of_ble_eq_true rfl) ?_
    exact hQ _ _ _ _ _ (Or.inr (Or.inl ⟨_, _, dX10_ofCellNow_19, rfl, by first | rfl | exact nar_bI _, rfl, rfl⟩)) ⟨rfl, rfl⟩
set_option maxRecDepth 100000 in
set_option maxHeartbeats 4000000 in
theorem cz_X10_ofCellNow_10 {l : Launch} {D : va_G} {cI cL cII cO : ClassId} {e0 : Nat} {g : Nat → Nat} {v : Int32} : CtZ l D (TY cI cL cII cO) e0 yX10_ofCellNow (Cond.code yX10_ofCellNow cX10_ofCellNow 7 (some .int) :: TBL) ({ frames := 4, cells := 5, slots := 13, locals := 93 } : Room) (MF cI cII e0 g ((nI 0))) [.ref (g 0), .int (nI 1), .int (nI 0), .int (v)] (fun r z => r = some (.int (nI 0)) ∧ z = (MF cI cII e0 g ((nI 0)))) := by
  refine CtZ.of [some (.ref (g 0)), some (.int (nI 1)), some (.int (nI 0)), some (.int (v)), none, none, none] (by decide) rfl rfl (Nat.le_of_ble_eq_true rfl) rfl (fun κ C ZE hQ => ?_)
  refine V.aload_n C dX10_ofCellNow_0 rfl ?_
  refine V.iconst C (v := nI 0) dX10_ofCellNow_1 (by decide) ?_
  refine V.zVqx C ZE (X := []) (cz_X10_filled) (by first | rfl | exact (List.append_nil _).symm) gz_X10_148 (n := 1) ⟨rfl, by decide, by decide, by decide +kernel⟩ rfl (q0 := 0) rfl rfl rfl ⟨Nat.le_of_ble_eq_true rfl, Nat.le_of_ble_eq_true rfl⟩ ⟨Nat.le_of_ble_eq_true rfl, Nat.le_of_ble_eq_true rfl⟩ (Nat.le_of_ble_eq_true rfl) rfl dX10_ofCellNow_2 (fun q1 => ?_)
  refine V.astore C dX10_ofCellNow_5 (by decide) rfl ?_
  dsimp only [List.set]
  refine V.iload_n C dX10_ofCellNow_7 rfl ?_
  refine V.if_ne C (tgt := 20) dX10_ofCellNow_8 (by decide) (fun c8 => ?_) (fun c8 => ?_)
  · skip
    refine V.iload_n C dX10_ofCellNow_20 rfl ?_
    refine V.iconst C (v := nI 1) dX10_ofCellNow_21 (by decide) ?_
    refine V.icmp_ne C (tgt := 32) dX10_ofCellNow_22 (by decide) (fun c22 => ?_) (fun c22 => ?_)
    · skip
      refine V.iload_n C dX10_ofCellNow_32 rfl ?_
      refine V.iconst C (v := nI 2) dX10_ofCellNow_33 (by decide) ?_
      refine V.icmp_ne C (tgt := 54) dX10_ofCellNow_34 (by decide) (fun c34 => ?_) (fun c34 => ?_)
      · skip
        refine V.iconst C (v := nI 0) dX10_ofCellNow_54 (by decide) ?_
        refine V.istore C dX10_ofCellNow_55 (by decide) rfl ?_
        dsimp only [List.set]
        refine V.iconst C (v := nI 0) dX10_ofCellNow_57 (by decide) ?_
        refine V.istore C dX10_ofCellNow_58 (by decide) rfl ?_
        dsimp only [List.set]
        refine V.iload C dX10_ofCellNow_60 rfl ?_
        refine V.aload_n C dX10_ofCellNow_62 rfl ?_
        refine V.get C (q0 := 0) (k := 2) rfl rfl (by decide) (iz_X10 _) (List.mem_cons_of_mem _ tw_75) rfl rfl dX10_ofCellNow_63 ?_
        refine V.zVin C ZE (cz_Jx4a65c_size_8abf5 (k := 2) rfl) gz_X10_41 (n := 0) ⟨rfl, by decide, by decide, by decide +kernel⟩ rfl (q0 := 2) rfl rfl rfl ⟨Nat.le_of_ble_eq_true rfl, Nat.le_of_ble_eq_true rfl⟩ ⟨Nat.le_of_ble_eq_true rfl, Nat.le_of_ble_eq_true rfl⟩ (Nat.le_of_ble_eq_true rfl) rfl dX10_ofCellNow_66 ?_
        refine V.icmp_ge C (tgt := 123) dX10_ofCellNow_69 (by decide) (fun c69 => ?_) (fun c69 => ?_)
        rotate_left
        · exfalso; exact absurd c69 (by decide +kernel)
        refine V.iload C dX10_ofCellNow_123 rfl ?_
        refine V.reord [0, 1, 2, 3, 4, 5, 6, 7, 8] (w' := [(g 0, .inr (12, [.int (nI 0), .ref (g 1), .ref (g 2), .ref (g 3), .ref (g 5), .ref (g 4), .int (nI 0), .int (nI 0), .int (nI 3), .int (nI 0)])), (g 1, .inr (1, [.int (nI 0), .ref e0, .int (nI 0)])), (g 2, .inr (1, [.int (nI 0), .ref e0, .int (nI 0)])), (g 3, .inr (1, [.int (nI 0), .ref e0, .int (nI 0)])), (g 4, .inr (1, [.int (nI 0), .ref e0, .int (nI 0)])), (g 5, .inl (cII, 3, .inr (.inr (.inr (.inr (fun i => if i < 3 then some (g 5 + 1 + i) else none)))))), (g 5 + 1, .inl (cI, 2, .inl (fun _ => (0 : Int32)))), (g 5 + 2, .inl (cI, 2, .inl (fun _ => (0 : Int32)))), (g 5 + 3, .inl (cI, 2, .inl (fun _ => (0 : Int32))))]) rfl (by decide) rfl ?_
        refine V.widen (k := 5) (n := 13) (Nat.le_of_ble_eq_true rfl) (Nat.le_of_ble_eq_true rfl) ?_
        exact hQ _ _ _ _ _ (Or.inr (Or.inl ⟨_, _, dX10_ofCellNow_125, rfl, by first | rfl | exact nar_bI _, rfl, rfl⟩)) ⟨rfl, rfl⟩
      · skip
        refine V.aload_n C dX10_ofCellNow_37 rfl ?_
        refine V.aload C dX10_ofCellNow_38 rfl ?_
        refine V.iload_n C dX10_ofCellNow_40 rfl ?_
        refine V.iload_n C dX10_ofCellNow_41 rfl ?_
        refine V.zVin C ZE (cz_X10_isOpen_10 (k := 9) rfl rfl rfl rfl rfl) gz_X10_152 (n := 3) ⟨rfl, by decide, by decide, by decide +kernel⟩ rfl (q0 := 0) rfl rfl rfl ⟨Nat.le_of_ble_eq_true rfl, Nat.le_of_ble_eq_true rfl⟩ ⟨Nat.le_of_ble_eq_true rfl, Nat.le_of_ble_eq_true rfl⟩ (Nat.le_of_ble_eq_true rfl) rfl dX10_ofCellNow_42 ?_
        refine V.if_eq C (tgt := 52) dX10_ofCellNow_45 (by decide) (fun c45 => ?_) (fun c45 => ?_)
        rotate_left
        · exfalso; exact absurd c45 (by decide +kernel)
        refine V.iconst C (v := nI 0) dX10_ofCellNow_52 (by decide) ?_
        refine V.reord [0, 1, 2, 3, 4, 5, 6, 7, 8] (w' := [(g 0, .inr (12, [.int (nI 0), .ref (g 1), .ref (g 2), .ref (g 3), .ref (g 5), .ref (g 4), .int (nI 0), .int (nI 0), .int (nI 3), .int (nI 0)])), (g 1, .inr (1, [.int (nI 0), .ref e0, .int (nI 0)])), (g 2, .inr (1, [.int (nI 0), .ref e0, .int (nI 0)])), (g 3, .inr (1, [.int (nI 0), .ref e0, .int (nI 0)])), (g 4, .inr (1, [.int (nI 0), .ref e0, .int (nI 0)])), (g 5, .inl (cII, 3, .inr (.inr (.inr (.inr (fun i => if i < 3 then some (g 5 + 1 + i) else none)))))), (g 5 + 1, .inl (cI, 2, .inl (fun _ => (0 : Int32)))), (g 5 + 2, .inl (cI, 2, .inl (fun _ => (0 : Int32)))), (g 5 + 3, .inl (cI, 2, .inl (fun _ => (0 : Int32))))]) rfl (by decide) rfl ?_
        refine V.widen (k := 5) (n := 13) (Nat.le_of_ble_eq_true rfl) (Nat.le_of_ble_eq_true rfl) ?_
        exact hQ _ _ _ _ _ (Or.inr (Or.inl ⟨_, _, dX10_ofCellNow_53, rfl, by first | rfl | exact nar_bI _, rfl, rfl⟩)) ⟨rfl, rfl⟩
    · skip
      refine V.aload C dX10_ofCellNow_25 rfl ?_
      refine V.iload_n C dX10_ofCellNow_27 rfl ?_
      refine V.aaldA C (q0 := 9) (t0 := 2) (j := 1) (r := q1 + 2) rfl rfl rfl (by decide) (by decide) rfl dX10_ofCellNow_28 ?_
      refine V.iload_n C dX10_ofCellNow_29 rfl ?_
      refine V.iald C (q0 := 11) (t0 := 0) rfl rfl rfl (by decide) (by decide) dX10_ofCellNow_30 ?_
      refine V.topi (y := nI 0) (by first | rfl | simp [upd, nI_0]) ?_
      refine V.reord [0, 1, 2, 3, 4, 5, 6, 7, 8] (w' := [(g 0, .inr (12, [.int (nI 0), .ref (g 1), .ref (g 2), .ref (g 3), .ref (g 5), .ref (g 4), .int (nI 0), .int (nI 0), .int (nI 3), .int (nI 0)])), (g 1, .inr (1, [.int (nI 0), .ref e0, .int (nI 0)])), (g 2, .inr (1, [.int (nI 0), .ref e0, .int (nI 0)])), (g 3, .inr (1, [.int (nI 0), .ref e0, .int (nI 0)])), (g 4, .inr (1, [.int (nI 0), .ref e0, .int (nI 0)])), (g 5, .inl (cII, 3, .inr (.inr (.inr (.inr (fun i => if i < 3 then some (g 5 + 1 + i) else none)))))), (g 5 + 1, .inl (cI, 2, .inl (fun _ => (0 : Int32)))), (g 5 + 2, .inl (cI, 2, .inl (fun _ => (0 : Int32)))), (g 5 + 3, .inl (cI, 2, .inl (fun _ => (0 : Int32))))]) rfl (by decide) rfl ?_
      refine V.widen (k := 5) (n := 13) (Nat.le_of_ble_eq_true rfl) (Nat.le_of_ble_eq_true rfl) ?_
      exact hQ _ _ _ _ _ (Or.inr (Or.inl ⟨_, _, dX10_ofCellNow_31, rfl, by first | rfl | exact nar_bI _, rfl, rfl⟩)) ⟨rfl, rfl⟩
  · skip
    refine V.aload_n C dX10_ofCellNow_11 rfl ?_
    refine V.get C (q0 := 0) (k := 4) rfl rfl (by decide) (iz_X10 _) (List.mem_cons_of_mem _ tw_92) rfl rfl dX10_ofCellNow_12 ?_
    refine V.iload_n C dX10_ofCellNow_15 rfl ?_
    refine V.aaldA C (q0 := 5) (t0 := 2) (j := 1) (r := g 5 + 2) rfl rfl rfl (by decide) (by decide) rfl dX10_ofCellNow_16 ?_
    refine V.iload_n C dX10_ofCellNow_17 rfl ?_
    refine V.iald C (q0 := 7) (t0 := 0) rfl rfl rfl (by decide) (by decide) dX10_ofCellNow_18 ?_
    refine V.topi (y := nI 0) (by first | rfl | simp [upd, nI_0]) ?_
    refine V.reord [0, 1, 2, 3, 4, 5, 6, 7, 8] (w' := [(g 0, .inr (12, [.int (nI 0), .ref (g 1), .ref (g 2), .ref (g 3), .ref (g 5), .ref (g 4), .int (nI 0), .int (nI 0), .int (nI 3), .int (nI 0)])), (g 1, .inr (1, [.int (nI 0), .ref e0, .int (nI 0)])), (g 2, .inr (1, [.int (nI 0), .ref e0, .int (nI 0)])), (g 3, .inr (1, [.int (nI 0), .ref e0, .int (nI 0)])), (g 4, .inr (1, [.int (nI 0), .ref e0, .int (nI 0)])), (g 5, .inl (cII, 3, .inr (.inr (.inr (.inr (fun i => if i < 3 then some (g 5 + 1 + i) else none)))))), (g 5 + 1, .inl (cI, 2, .inl (fun _ => (0 : Int32)))), (g 5 + 2, .inl (cI, 2, .inl (fun _ => (0 : Int32)))), (g 5 + 3, .inl (cI, 2, .inl (fun _ => (0 : Int32))))]) rfl (by decide) rfl ?_
    refine V.widen (k := 5) (n := 13) (Nat.le_of_ble_eq_true rfl) (Nat.le_of_ble_eq_true rfl) ?_
    exact hQ _ _ _ _ _ (Or.inr (Or.inl ⟨_, _, dX10_ofCellNow_19, rfl, by first | rfl | exact nar_bI _, rfl, rfl⟩)) ⟨rfl, rfl⟩
set_option maxRecDepth 100000 in
set_option maxHeartbeats 4000000 in
theorem cz_X10_ofCellNow_11 {l : Launch} {D : va_G} {cI cL cII cO : ClassId} {e0 : Nat} {g : Nat → Nat} {v : Int32} : CtZ l D (TY cI cL cII cO) e0 yX10_ofCellNow (Cond.code yX10_ofCellNow cX10_ofCellNow 7 (some .int) :: TBL) ({ frames := 4, cells := 5, slots := 13, locals := 93 } : Room) (MF cI cII e0 g ((nI 0))) [.ref (g 0), .int (nI 1), .int (nI 1), .int (v)] (fun r z => r = some (.int (nI 0)) ∧ z = (MF cI cII e0 g ((nI 0)))) := by
  refine CtZ.of [some (.ref (g 0)), some (.int (nI 1)), some (.int (nI 1)), some (.int (v)), none, none, none] (by decide) rfl rfl (Nat.le_of_ble_eq_true rfl) rfl (fun κ C ZE hQ => ?_)
  refine V.aload_n C dX10_ofCellNow_0 rfl ?_
  refine V.iconst C (v := nI 0) dX10_ofCellNow_1 (by decide) ?_
  refine V.zVqx C ZE (X := []) (cz_X10_filled) (by first | rfl | exact (List.append_nil _).symm) gz_X10_148 (n := 1) ⟨rfl, by decide, by decide, by decide +kernel⟩ rfl (q0 := 0) rfl rfl rfl ⟨Nat.le_of_ble_eq_true rfl, Nat.le_of_ble_eq_true rfl⟩ ⟨Nat.le_of_ble_eq_true rfl, Nat.le_of_ble_eq_true rfl⟩ (Nat.le_of_ble_eq_true rfl) rfl dX10_ofCellNow_2 (fun q1 => ?_)
  refine V.astore C dX10_ofCellNow_5 (by decide) rfl ?_
  dsimp only [List.set]
  refine V.iload_n C dX10_ofCellNow_7 rfl ?_
  refine V.if_ne C (tgt := 20) dX10_ofCellNow_8 (by decide) (fun c8 => ?_) (fun c8 => ?_)
  · skip
    refine V.iload_n C dX10_ofCellNow_20 rfl ?_
    refine V.iconst C (v := nI 1) dX10_ofCellNow_21 (by decide) ?_
    refine V.icmp_ne C (tgt := 32) dX10_ofCellNow_22 (by decide) (fun c22 => ?_) (fun c22 => ?_)
    · skip
      refine V.iload_n C dX10_ofCellNow_32 rfl ?_
      refine V.iconst C (v := nI 2) dX10_ofCellNow_33 (by decide) ?_
      refine V.icmp_ne C (tgt := 54) dX10_ofCellNow_34 (by decide) (fun c34 => ?_) (fun c34 => ?_)
      · skip
        refine V.iconst C (v := nI 0) dX10_ofCellNow_54 (by decide) ?_
        refine V.istore C dX10_ofCellNow_55 (by decide) rfl ?_
        dsimp only [List.set]
        refine V.iconst C (v := nI 0) dX10_ofCellNow_57 (by decide) ?_
        refine V.istore C dX10_ofCellNow_58 (by decide) rfl ?_
        dsimp only [List.set]
        refine V.iload C dX10_ofCellNow_60 rfl ?_
        refine V.aload_n C dX10_ofCellNow_62 rfl ?_
        refine V.get C (q0 := 0) (k := 2) rfl rfl (by decide) (iz_X10 _) (List.mem_cons_of_mem _ tw_75) rfl rfl dX10_ofCellNow_63 ?_
        refine V.zVin C ZE (cz_Jx4a65c_size_8abf5 (k := 2) rfl) gz_X10_41 (n := 0) ⟨rfl, by decide, by decide, by decide +kernel⟩ rfl (q0 := 2) rfl rfl rfl ⟨Nat.le_of_ble_eq_true rfl, Nat.le_of_ble_eq_true rfl⟩ ⟨Nat.le_of_ble_eq_true rfl, Nat.le_of_ble_eq_true rfl⟩ (Nat.le_of_ble_eq_true rfl) rfl dX10_ofCellNow_66 ?_
        refine V.icmp_ge C (tgt := 123) dX10_ofCellNow_69 (by decide) (fun c69 => ?_) (fun c69 => ?_)
        rotate_left
        · exfalso; exact absurd c69 (by decide +kernel)
        refine V.iload C dX10_ofCellNow_123 rfl ?_
        refine V.reord [0, 1, 2, 3, 4, 5, 6, 7, 8] (w' := [(g 0, .inr (12, [.int (nI 0), .ref (g 1), .ref (g 2), .ref (g 3), .ref (g 5), .ref (g 4), .int (nI 0), .int (nI 0), .int (nI 3), .int (nI 0)])), (g 1, .inr (1, [.int (nI 0), .ref e0, .int (nI 0)])), (g 2, .inr (1, [.int (nI 0), .ref e0, .int (nI 0)])), (g 3, .inr (1, [.int (nI 0), .ref e0, .int (nI 0)])), (g 4, .inr (1, [.int (nI 0), .ref e0, .int (nI 0)])), (g 5, .inl (cII, 3, .inr (.inr (.inr (.inr (fun i => if i < 3 then some (g 5 + 1 + i) else none)))))), (g 5 + 1, .inl (cI, 2, .inl (fun _ => (0 : Int32)))), (g 5 + 2, .inl (cI, 2, .inl (fun _ => (0 : Int32)))), (g 5 + 3, .inl (cI, 2, .inl (fun _ => (0 : Int32))))]) rfl (by decide) rfl ?_
        refine V.widen (k := 5) (n := 13) (Nat.le_of_ble_eq_true rfl) (Nat.le_of_ble_eq_true rfl) ?_
        exact hQ _ _ _ _ _ (Or.inr (Or.inl ⟨_, _, dX10_ofCellNow_125, rfl, by first | rfl | exact nar_bI _, rfl, rfl⟩)) ⟨rfl, rfl⟩
      · skip
        refine V.aload_n C dX10_ofCellNow_37 rfl ?_
        refine V.aload C dX10_ofCellNow_38 rfl ?_
        refine V.iload_n C dX10_ofCellNow_40 rfl ?_
        refine V.iload_n C dX10_ofCellNow_41 rfl ?_
        refine V.zVin C ZE (cz_X10_isOpen_11 (k := 9) rfl rfl rfl rfl rfl) gz_X10_152 (n := 3) ⟨rfl, by decide, by decide, by decide +kernel⟩ rfl (q0 := 0) rfl rfl rfl ⟨Nat.le_of_ble_eq_true rfl, Nat.le_of_ble_eq_true rfl⟩ ⟨Nat.le_of_ble_eq_true rfl, Nat.le_of_ble_eq_true rfl⟩ (Nat.le_of_ble_eq_true rfl) rfl dX10_ofCellNow_42 ?_
        refine V.if_eq C (tgt := 52) dX10_ofCellNow_45 (by decide) (fun c45 => ?_) (fun c45 => ?_)
        rotate_left
        · exfalso; exact absurd c45 (by decide +kernel)
        refine V.iconst C (v := nI 0) dX10_ofCellNow_52 (by decide) ?_
        refine V.reord [0, 1, 2, 3, 4, 5, 6, 7, 8] (w' := [(g 0, .inr (12, [.int (nI 0), .ref (g 1), .ref (g 2), .ref (g 3), .ref (g 5), .ref (g 4), .int (nI 0), .int (nI 0), .int (nI 3), .int (nI 0)])), (g 1, .inr (1, [.int (nI 0), .ref e0, .int (nI 0)])), (g 2, .inr (1, [.int (nI 0), .ref e0, .int (nI 0)])), (g 3, .inr (1, [.int (nI 0), .ref e0, .int (nI 0)])), (g 4, .inr (1, [.int (nI 0), .ref e0, .int (nI 0)])), (g 5, .inl (cII, 3, .inr (.inr (.inr (.inr (fun i => if i < 3 then some (g 5 + 1 + i) else none)))))), (g 5 + 1, .inl (cI, 2, .inl (fun _ => (0 : Int32)))), (g 5 + 2, .inl (cI, 2, .inl (fun _ => (0 : Int32)))), (g 5 + 3, .inl (cI, 2, .inl (fun _ => (0 : Int32))))]) rfl (by decide) rfl ?_
        refine V.widen (k := 5) (n := 13) (Nat.le_of_ble_eq_true rfl) (Nat.le_of_ble_eq_true rfl) ?_
        exact hQ _ _ _ _ _ (Or.inr (Or.inl ⟨_, _, dX10_ofCellNow_53, rfl, by first | rfl | exact nar_bI _, rfl, rfl⟩)) ⟨rfl, rfl⟩
    · skip
      refine V.aload C dX10_ofCellNow_25 rfl ?_
      refine V.iload_n C dX10_ofCellNow_27 rfl ?_
      refine V.aaldA C (q0 := 9) (t0 := 2) (j := 1) (r := q1 + 2) rfl rfl rfl (by decide) (by decide) rfl dX10_ofCellNow_28 ?_
      refine V.iload_n C dX10_ofCellNow_29 rfl ?_
      refine V.iald C (q0 := 11) (t0 := 0) rfl rfl rfl (by decide) (by decide) dX10_ofCellNow_30 ?_
      refine V.topi (y := nI 0) (by first | rfl | simp [upd, nI_0]) ?_
      refine V.reord [0, 1, 2, 3, 4, 5, 6, 7, 8] (w' := [(g 0, .inr (12, [.int (nI 0), .ref (g 1), .ref (g 2), .ref (g 3), .ref (g 5), .ref (g 4), .int (nI 0), .int (nI 0), .int (nI 3), .int (nI 0)])), (g 1, .inr (1, [.int (nI 0), .ref e0, .int (nI 0)])), (g 2, .inr (1, [.int (nI 0), .ref e0, .int (nI 0)])), (g 3, .inr (1, [.int (nI 0), .ref e0, .int (nI 0)])), (g 4, .inr (1, [.int (nI 0), .ref e0, .int (nI 0)])), (g 5, .inl (cII, 3, .inr (.inr (.inr (.inr (fun i => if i < 3 then some (g 5 + 1 + i) else none)))))), (g 5 + 1, .inl (cI, 2, .inl (fun _ => (0 : Int32)))), (g 5 + 2, .inl (cI, 2, .inl (fun _ => (0 : Int32)))), (g 5 + 3, .inl (cI, 2, .inl (fun _ => (0 : Int32))))]) rfl (by decide) rfl ?_
      refine V.widen (k := 5) (n := 13) (Nat.le_of_ble_eq_true rfl) (Nat.le_of_ble_eq_true rfl) ?_
      exact hQ _ _ _ _ _ (Or.inr (Or.inl ⟨_, _, dX10_ofCellNow_31, rfl, by first | rfl | exact nar_bI _, rfl, rfl⟩)) ⟨rfl, rfl⟩
  · skip
    refine V.aload_n C dX10_ofCellNow_11 rfl ?_
    refine V.get C (q0 := 0) (k := 4) rfl rfl (by decide) (iz_X10 _) (List.mem_cons_of_mem _ tw_92) rfl rfl dX10_ofCellNow_12 ?_
    refine V.iload_n C dX10_ofCellNow_15 rfl ?_
    refine V.aaldA C (q0 := 5) (t0 := 2) (j := 1) (r := g 5 + 2) rfl rfl rfl (by decide) (by decide) rfl dX10_ofCellNow_16 ?_
    refine V.iload_n C dX10_ofCellNow_17 rfl ?_
    refine V.iald C (q0 := 7) (t0 := 0) rfl rfl rfl (by decide) (by decide) dX10_ofCellNow_18 ?_
    refine V.topi (y := nI 0) (by first | rfl | simp [upd, nI_0]) ?_
    refine V.reord [0, 1, 2, 3, 4, 5, 6, 7, 8] (w' := [(g 0, .inr (12, [.int (nI 0), .ref (g 1), .ref (g 2), .ref (g 3), .ref (g 5), .ref (g 4), .int (nI 0), .int (nI 0), .int (nI 3), .int (nI 0)])), (g 1, .inr (1, [.int (nI 0), .ref e0, .int (nI 0)])), (g 2, .inr (1, [.int (nI 0), .ref e0, .int (nI 0)])), (g 3, .inr (1, [.int (nI 0), .ref e0, .int (nI 0)])), (g 4, .inr (1, [.int (nI 0), .ref e0, .int (nI 0)])), (g 5, .inl (cII, 3, .inr (.inr (.inr (.inr (fun i => if i < 3 then some (g 5 + 1 + i) else none)))))), (g 5 + 1, .inl (cI, 2, .inl (fun _ => (0 : Int32)))), (g 5 + 2, .inl (cI, 2, .inl (fun _ => (0 : Int32)))), (g 5 + 3, .inl (cI, 2, .inl (fun _ => (0 : Int32))))]) rfl (by decide) rfl ?_
    refine V.widen (k := 5) (n := 13) (Nat.le_of_ble_eq_true rfl) (Nat.le_of_ble_eq_true rfl) ?_
    exact hQ _ _ _ _ _ (Or.inr (Or.inl ⟨_, _, dX10_ofCellNow_19, rfl, by first | rfl | exact nar_bI _, rfl, rfl⟩)) ⟨rfl, rfl⟩
set_option maxRecDepth 100000 in
set_option maxHeartbeats 4000000 in
theorem cz_X10_ofCellNow_20 {l : Launch} {D : va_G} {cI cL cII cO : ClassId} {e0 : Nat} {g : Nat → Nat} {v : Int32} : CtZ l D (TY cI cL cII cO) e0 yX10_ofCellNow (Cond.code yX10_ofCellNow cX10_ofCellNow 7 (some .int) :: TBL) ({ frames := 4, cells := 5, slots := 13, locals := 93 } : Room) (MF cI cII e0 g ((nI 0))) [.ref (g 0), .int (nI 2), .int (nI 0), .int (v)] (fun r z => r = some (.int (nI 0)) ∧ z = (MF cI cII e0 g ((nI 0)))) := by
  refine CtZ.of [some (.ref (g 0)), some (.int (nI 2)), some (.int (nI 0)), some (.int (v)), none, none, none] (by decide) rfl rfl (Nat.le_of_ble_eq_true rfl) rfl (fun κ C ZE hQ => ?_)
  refine V.aload_n C dX10_ofCellNow_0 rfl ?_
  refine V.iconst C (v := nI 0) dX10_ofCellNow_1 (by decide) ?_
  refine V.zVqx C ZE (X := []) (cz_X10_filled) (by first | rfl | exact (List.append_nil _).symm) gz_X10_148 (n := 1) ⟨rfl, by decide, by decide, by decide +kernel⟩ rfl (q0 := 0) rfl rfl rfl ⟨Nat.le_of_ble_eq_true rfl, Nat.le_of_ble_eq_true rfl⟩ ⟨Nat.le_of_ble_eq_true rfl, Nat.le_of_ble_eq_true rfl⟩ (Nat.le_of_ble_eq_true rfl) rfl dX10_ofCellNow_2 (fun q1 => ?_)
  refine V.astore C dX10_ofCellNow_5 (by decide) rfl ?_
  dsimp only [List.set]
  refine V.iload_n C dX10_ofCellNow_7 rfl ?_
  refine V.if_ne C (tgt := 20) dX10_ofCellNow_8 (by decide) (fun c8 => ?_) (fun c8 => ?_)
  · skip
    refine V.iload_n C dX10_ofCellNow_20 rfl ?_
    refine V.iconst C (v := nI 1) dX10_ofCellNow_21 (by decide) ?_
    refine V.icmp_ne C (tgt := 32) dX10_ofCellNow_22 (by decide) (fun c22 => ?_) (fun c22 => ?_)
    · skip
      refine V.iload_n C dX10_ofCellNow_32 rfl ?_
      refine V.iconst C (v := nI 2) dX10_ofCellNow_33 (by decide) ?_
      refine V.icmp_ne C (tgt := 54) dX10_ofCellNow_34 (by decide) (fun c34 => ?_) (fun c34 => ?_)
      · skip
        refine V.iconst C (v := nI 0) dX10_ofCellNow_54 (by decide) ?_
        refine V.istore C dX10_ofCellNow_55 (by decide) rfl ?_
        dsimp only [List.set]
        refine V.iconst C (v := nI 0) dX10_ofCellNow_57 (by decide) ?_
        refine V.istore C dX10_ofCellNow_58 (by decide) rfl ?_
        dsimp only [List.set]
        refine V.iload C dX10_ofCellNow_60 rfl ?_
        refine V.aload_n C dX10_ofCellNow_62 rfl ?_
        refine V.get C (q0 := 0) (k := 2) rfl rfl (by decide) (iz_X10 _) (List.mem_cons_of_mem _ tw_75) rfl rfl dX10_ofCellNow_63 ?_
        refine V.zVin C ZE (cz_Jx4a65c_size_8abf5 (k := 2) rfl) gz_X10_41 (n := 0) ⟨rfl, by decide, by decide, by decide +kernel⟩ rfl (q0 := 2) rfl rfl rfl ⟨Nat.le_of_ble_eq_true rfl, Nat.le_of_ble_eq_true rfl⟩ ⟨Nat.le_of_ble_eq_true rfl, Nat.le_of_ble_eq_true rfl⟩ (Nat.le_of_ble_eq_true rfl) rfl dX10_ofCellNow_66 ?_
        refine V.icmp_ge C (tgt := 123) dX10_ofCellNow_69 (by decide) (fun c69 => ?_) (fun c69 => ?_)
        rotate_left
        · exfalso; exact absurd c69 (by decide +kernel)
        refine V.iload C dX10_ofCellNow_123 rfl ?_
        refine V.reord [0, 1, 2, 3, 4, 5, 6, 7, 8] (w' := [(g 0, .inr (12, [.int (nI 0), .ref (g 1), .ref (g 2), .ref (g 3), .ref (g 5), .ref (g 4), .int (nI 0), .int (nI 0), .int (nI 3), .int (nI 0)])), (g 1, .inr (1, [.int (nI 0), .ref e0, .int (nI 0)])), (g 2, .inr (1, [.int (nI 0), .ref e0, .int (nI 0)])), (g 3, .inr (1, [.int (nI 0), .ref e0, .int (nI 0)])), (g 4, .inr (1, [.int (nI 0), .ref e0, .int (nI 0)])), (g 5, .inl (cII, 3, .inr (.inr (.inr (.inr (fun i => if i < 3 then some (g 5 + 1 + i) else none)))))), (g 5 + 1, .inl (cI, 2, .inl (fun _ => (0 : Int32)))), (g 5 + 2, .inl (cI, 2, .inl (fun _ => (0 : Int32)))), (g 5 + 3, .inl (cI, 2, .inl (fun _ => (0 : Int32))))]) rfl (by decide) rfl ?_
        refine V.widen (k := 5) (n := 13) (Nat.le_of_ble_eq_true rfl) (Nat.le_of_ble_eq_true rfl) ?_
        exact hQ _ _ _ _ _ (Or.inr (Or.inl ⟨_, _, dX10_ofCellNow_125, rfl, by first | rfl | exact nar_bI _, rfl, rfl⟩)) ⟨rfl, rfl⟩
      · skip
        refine V.aload_n C dX10_ofCellNow_37 rfl ?_
        refine V.aload C dX10_ofCellNow_38 rfl ?_
        refine V.iload_n C dX10_ofCellNow_40 rfl ?_
        refine V.iload_n C dX10_ofCellNow_41 rfl ?_
        refine V.zVin C ZE (cz_X10_isOpen_20 (k := 9) rfl rfl rfl rfl rfl) gz_X10_152 (n := 3) ⟨rfl, by decide, by decide, by decide +kernel⟩ rfl (q0 := 0) rfl rfl rfl ⟨Nat.le_of_ble_eq_true rfl, Nat.le_of_ble_eq_true rfl⟩ ⟨Nat.le_of_ble_eq_true rfl, Nat.le_of_ble_eq_true rfl⟩ (Nat.le_of_ble_eq_true rfl) rfl dX10_ofCellNow_42 ?_
        refine V.if_eq C (tgt := 52) dX10_ofCellNow_45 (by decide) (fun c45 => ?_) (fun c45 => ?_)
        rotate_left
        · exfalso; exact absurd c45 (by decide +kernel)
        refine V.iconst C (v := nI 0) dX10_ofCellNow_52 (by decide) ?_
        refine V.reord [0, 1, 2, 3, 4, 5, 6, 7, 8] (w' := [(g 0, .inr (12, [.int (nI 0), .ref (g 1), .ref (g 2), .ref (g 3), .ref (g 5), .ref (g 4), .int (nI 0), .int (nI 0), .int (nI 3), .int (nI 0)])), (g 1, .inr (1, [.int (nI 0), .ref e0, .int (nI 0)])), (g 2, .inr (1, [.int (nI 0), .ref e0, .int (nI 0)])), (g 3, .inr (1, [.int (nI 0), .ref e0, .int (nI 0)])), (g 4, .inr (1, [.int (nI 0), .ref e0, .int (nI 0)])), (g 5, .inl (cII, 3, .inr (.inr (.inr (.inr (fun i => if i < 3 then some (g 5 + 1 + i) else none)))))), (g 5 + 1, .inl (cI, 2, .inl (fun _ => (0 : Int32)))), (g 5 + 2, .inl (cI, 2, .inl (fun _ => (0 : Int32)))), (g 5 + 3, .inl (cI, 2, .inl (fun _ => (0 : Int32))))]) rfl (by decide) rfl ?_
        refine V.widen (k := 5) (n := 13) (Nat.le_of_ble_eq_true rfl) (Nat.le_of_ble_eq_true rfl) ?_
        exact hQ _ _ _ _ _ (Or.inr (Or.inl ⟨_, _, dX10_ofCellNow_53, rfl, by first | rfl | exact nar_bI _, rfl, rfl⟩)) ⟨rfl, rfl⟩
    · skip
      refine V.aload C dX10_ofCellNow_25 rfl ?_
      refine V.iload_n C dX10_ofCellNow_27 rfl ?_
      refine V.aaldA C (q0 := 9) (t0 := 2) (j := 2) (r := q1 + 3) rfl rfl rfl (by decide) (by decide) rfl dX10_ofCellNow_28 ?_
      refine V.iload_n C dX10_ofCellNow_29 rfl ?_
      refine V.iald C (q0 := 12) (t0 := 0) rfl rfl rfl (by decide) (by decide) dX10_ofCellNow_30 ?_
      refine V.topi (y := nI 0) (by first | rfl | simp [upd, nI_0]) ?_
      refine V.reord [0, 1, 2, 3, 4, 5, 6, 7, 8] (w' := [(g 0, .inr (12, [.int (nI 0), .ref (g 1), .ref (g 2), .ref (g 3), .ref (g 5), .ref (g 4), .int (nI 0), .int (nI 0), .int (nI 3), .int (nI 0)])), (g 1, .inr (1, [.int (nI 0), .ref e0, .int (nI 0)])), (g 2, .inr (1, [.int (nI 0), .ref e0, .int (nI 0)])), (g 3, .inr (1, [.int (nI 0), .ref e0, .int (nI 0)])), (g 4, .inr (1, [.int (nI 0), .ref e0, .int (nI 0)])), (g 5, .inl (cII, 3, .inr (.inr (.inr (.inr (fun i => if i < 3 then some (g 5 + 1 + i) else none)))))), (g 5 + 1, .inl (cI, 2, .inl (fun _ => (0 : Int32)))), (g 5 + 2, .inl (cI, 2, .inl (fun _ => (0 : Int32)))), (g 5 + 3, .inl (cI, 2, .inl (fun _ => (0 : Int32))))]) rfl (by decide) rfl ?_
      refine V.widen (k := 5) (n := 13) (Nat.le_of_ble_eq_true rfl) (Nat.le_of_ble_eq_true rfl) ?_
      exact hQ _ _ _ _ _ (Or.inr (Or.inl ⟨_, _, dX10_ofCellNow_31, rfl, by first | rfl | exact nar_bI _, rfl, rfl⟩)) ⟨rfl, rfl⟩
  · skip
    refine V.aload_n C dX10_ofCellNow_11 rfl ?_
    refine V.get C (q0 := 0) (k := 4) rfl rfl (by decide) (iz_X10 _) (List.mem_cons_of_mem _ tw_92) rfl rfl dX10_ofCellNow_12 ?_
    refine V.iload_n C dX10_ofCellNow_15 rfl ?_
    refine V.aaldA C (q0 := 5) (t0 := 2) (j := 2) (r := g 5 + 3) rfl rfl rfl (by decide) (by decide) rfl dX10_ofCellNow_16 ?_
    refine V.iload_n C dX10_ofCellNow_17 rfl ?_
    refine V.iald C (q0 := 8) (t0 := 0) rfl rfl rfl (by decide) (by decide) dX10_ofCellNow_18 ?_
    refine V.topi (y := nI 0) (by first | rfl | simp [upd, nI_0]) ?_
    refine V.reord [0, 1, 2, 3, 4, 5, 6, 7, 8] (w' := [(g 0, .inr (12, [.int (nI 0), .ref (g 1), .ref (g 2), .ref (g 3), .ref (g 5), .ref (g 4), .int (nI 0), .int (nI 0), .int (nI 3), .int (nI 0)])), (g 1, .inr (1, [.int (nI 0), .ref e0, .int (nI 0)])), (g 2, .inr (1, [.int (nI 0), .ref e0, .int (nI 0)])), (g 3, .inr (1, [.int (nI 0), .ref e0, .int (nI 0)])), (g 4, .inr (1, [.int (nI 0), .ref e0, .int (nI 0)])), (g 5, .inl (cII, 3, .inr (.inr (.inr (.inr (fun i => if i < 3 then some (g 5 + 1 + i) else none)))))), (g 5 + 1, .inl (cI, 2, .inl (fun _ => (0 : Int32)))), (g 5 + 2, .inl (cI, 2, .inl (fun _ => (0 : Int32)))), (g 5 + 3, .inl (cI, 2, .inl (fun _ => (0 : Int32))))]) rfl (by decide) rfl ?_
    refine V.widen (k := 5) (n := 13) (Nat.le_of_ble_eq_true rfl) (Nat.le_of_ble_eq_true rfl) ?_
    exact hQ _ _ _ _ _ (Or.inr (Or.inl ⟨_, _, dX10_ofCellNow_19, rfl, by first | rfl | exact nar_bI _, rfl, rfl⟩)) ⟨rfl, rfl⟩
set_option maxRecDepth 100000 in
set_option maxHeartbeats 4000000 in
theorem cz_X10_ofCellNow_21 {l : Launch} {D : va_G} {cI cL cII cO : ClassId} {e0 : Nat} {g : Nat → Nat} {v : Int32} : CtZ l D (TY cI cL cII cO) e0 yX10_ofCellNow (Cond.code yX10_ofCellNow cX10_ofCellNow 7 (some .int) :: TBL) ({ frames := 4, cells := 5, slots := 13, locals := 93 } : Room) (MF cI cII e0 g ((nI 0))) [.ref (g 0), .int (nI 2), .int (nI 1), .int (v)] (fun r z => r = some (.int (nI 0)) ∧ z = (MF cI cII e0 g ((nI 0)))) := by
  refine CtZ.of [some (.ref (g 0)), some (.int (nI 2)), some (.int (nI 1)), some (.int (v)), none, none, none] (by decide) rfl rfl (Nat.le_of_ble_eq_true rfl) rfl (fun κ C ZE hQ => ?_)
  refine V.aload_n C dX10_ofCellNow_0 rfl ?_
  refine V.iconst C (v := nI 0) dX10_ofCellNow_1 (by decide) ?_
  refine V.zVqx C ZE (X := []) (cz_X10_filled) (by first | rfl | exact (List.append_nil _).symm) gz_X10_148 (n := 1) ⟨rfl, by decide, by decide, by decide +kernel⟩ rfl (q0 := 0) rfl rfl rfl ⟨Nat.le_of_ble_eq_true rfl, Nat.le_of_ble_eq_true rfl⟩ ⟨Nat.le_of_ble_eq_true rfl, Nat.le_of_ble_eq_true rfl⟩ (Nat.le_of_ble_eq_true rfl) rfl dX10_ofCellNow_2 (fun q1 => ?_)
  refine V.astore C dX10_ofCellNow_5 (by decide) rfl ?_
  dsimp only [List.set]
  refine V.iload_n C dX10_ofCellNow_7 rfl ?_
  refine V.if_ne C (tgt := 20) dX10_ofCellNow_8 (by decide) (fun c8 => ?_) (fun c8 => ?_)
  · skip
    refine V.iload_n C dX10_ofCellNow_20 rfl ?_
    refine V.iconst C (v := nI 1) dX10_ofCellNow_21 (by decide) ?_
    refine V.icmp_ne C (tgt := 32) dX10_ofCellNow_22 (by decide) (fun c22 => ?_) (fun c22 => ?_)
    · skip
      refine V.iload_n C dX10_ofCellNow_32 rfl ?_
      refine V.iconst C (v := nI 2) dX10_ofCellNow_33 (by decide) ?_
      refine V.icmp_ne C (tgt := 54) dX10_ofCellNow_34 (by decide) (fun c34 => ?_) (fun c34 => ?_)
      · skip
        refine V.iconst C (v := nI 0) dX10_ofCellNow_54 (by decide) ?_
        refine V.istore C dX10_ofCellNow_55 (by decide) rfl ?_
        dsimp only [List.set]
        refine V.iconst C (v := nI 0) dX10_ofCellNow_57 (by decide) ?_
        refine V.istore C dX10_ofCellNow_58 (by decide) rfl ?_
        dsimp only [List.set]
        refine V.iload C dX10_ofCellNow_60 rfl ?_
        refine V.aload_n C dX10_ofCellNow_62 rfl ?_
        refine V.get C (q0 := 0) (k := 2) rfl rfl (by decide) (iz_X10 _) (List.mem_cons_of_mem _ tw_75) rfl rfl dX10_ofCellNow_63 ?_
        refine V.zVin C ZE (cz_Jx4a65c_size_8abf5 (k := 2) rfl) gz_X10_41 (n := 0) ⟨rfl, by decide, by decide, by decide +kernel⟩ rfl (q0 := 2) rfl rfl rfl ⟨Nat.le_of_ble_eq_true rfl, Nat.le_of_ble_eq_true rfl⟩ ⟨Nat.le_of_ble_eq_true rfl, Nat.le_of_ble_eq_true rfl⟩ (Nat.le_of_ble_eq_true rfl) rfl dX10_ofCellNow_66 ?_
        refine V.icmp_ge C (tgt := 123) dX10_ofCellNow_69 (by decide) (fun c69 => ?_) (fun c69 => ?_)
        rotate_left
        · exfalso; exact absurd c69 (by decide +kernel)
        refine V.iload C dX10_ofCellNow_123 rfl ?_
        refine V.reord [0, 1, 2, 3, 4, 5, 6, 7, 8] (w' := [(g 0, .inr (12, [.int (nI 0), .ref (g 1), .ref (g 2), .ref (g 3), .ref (g 5), .ref (g 4), .int (nI 0), .int (nI 0), .int (nI 3), .int (nI 0)])), (g 1, .inr (1, [.int (nI 0), .ref e0, .int (nI 0)])), (g 2, .inr (1, [.int (nI 0), .ref e0, .int (nI 0)])), (g 3, .inr (1, [.int (nI 0), .ref e0, .int (nI 0)])), (g 4, .inr (1, [.int (nI 0), .ref e0, .int (nI 0)])), (g 5, .inl (cII, 3, .inr (.inr (.inr (.inr (fun i => if i < 3 then some (g 5 + 1 + i) else none)))))), (g 5 + 1, .inl (cI, 2, .inl (fun _ => (0 : Int32)))), (g 5 + 2, .inl (cI, 2, .inl (fun _ => (0 : Int32)))), (g 5 + 3, .inl (cI, 2, .inl (fun _ => (0 : Int32))))]) rfl (by decide) rfl ?_
        refine V.widen (k := 5) (n := 13) (Nat.le_of_ble_eq_true rfl) (Nat.le_of_ble_eq_true rfl) ?_
        exact hQ _ _ _ _ _ (Or.inr (Or.inl ⟨_, _, dX10_ofCellNow_125, rfl, by first | rfl | exact nar_bI _, rfl, rfl⟩)) ⟨rfl, rfl⟩
      · skip
        refine V.aload_n C dX10_ofCellNow_37 rfl ?_
        refine V.aload C dX10_ofCellNow_38 rfl ?_
        refine V.iload_n C dX10_ofCellNow_40 rfl ?_
        refine V.iload_n C dX10_ofCellNow_41 rfl ?_
        refine V.zVin C ZE (cz_X10_isOpen_21 (k := 9) rfl rfl rfl rfl rfl) gz_X10_152 (n := 3) ⟨rfl, by decide, by decide, by decide +kernel⟩ rfl (q0 := 0) rfl rfl rfl ⟨Nat.le_of_ble_eq_true rfl, Nat.le_of_ble_eq_true rfl⟩ ⟨Nat.le_of_ble_eq_true rfl, Nat.le_of_ble_eq_true rfl⟩ (Nat.le_of_ble_eq_true rfl) rfl dX10_ofCellNow_42 ?_
        refine V.if_eq C (tgt := 52) dX10_ofCellNow_45 (by decide) (fun c45 => ?_) (fun c45 => ?_)
        rotate_left
        · exfalso; exact absurd c45 (by decide +kernel)
        refine V.iconst C (v := nI 0) dX10_ofCellNow_52 (by decide) ?_
        refine V.reord [0, 1, 2, 3, 4, 5, 6, 7, 8] (w' := [(g 0, .inr (12, [.int (nI 0), .ref (g 1), .ref (g 2), .ref (g 3), .ref (g 5), .ref (g 4), .int (nI 0), .int (nI 0), .int (nI 3), .int (nI 0)])), (g 1, .inr (1, [.int (nI 0), .ref e0, .int (nI 0)])), (g 2, .inr (1, [.int (nI 0), .ref e0, .int (nI 0)])), (g 3, .inr (1, [.int (nI 0), .ref e0, .int (nI 0)])), (g 4, .inr (1, [.int (nI 0), .ref e0, .int (nI 0)])), (g 5, .inl (cII, 3, .inr (.inr (.inr (.inr (fun i => if i < 3 then some (g 5 + 1 + i) else none)))))), (g 5 + 1, .inl (cI, 2, .inl (fun _ => (0 : Int32)))), (g 5 + 2, .inl (cI, 2, .inl (fun _ => (0 : Int32)))), (g 5 + 3, .inl (cI, 2, .inl (fun _ => (0 : Int32))))]) rfl (by decide) rfl ?_
        refine V.widen (k := 5) (n := 13) (Nat.le_of_ble_eq_true rfl) (Nat.le_of_ble_eq_true rfl) ?_
        exact hQ _ _ _ _ _ (Or.inr (Or.inl ⟨_, _, dX10_ofCellNow_53, rfl, by first | rfl | exact nar_bI _, rfl, rfl⟩)) ⟨rfl, rfl⟩
    · skip
      refine V.aload C dX10_ofCellNow_25 rfl ?_
      refine V.iload_n C dX10_ofCellNow_27 rfl ?_
      refine V.aaldA C (q0 := 9) (t0 := 2) (j := 2) (r := q1 + 3) rfl rfl rfl (by decide) (by decide) rfl dX10_ofCellNow_28 ?_
      refine V.iload_n C dX10_ofCellNow_29 rfl ?_
      refine V.iald C (q0 := 12) (t0 := 0) rfl rfl rfl (by decide) (by decide) dX10_ofCellNow_30 ?_
      refine V.topi (y := nI 0) (by first | rfl | simp [upd, nI_0]) ?_
      refine V.reord [0, 1, 2, 3, 4, 5, 6, 7, 8] (w' := [(g 0, .inr (12, [.int (nI 0), .ref (g 1), .ref (g 2), .ref (g 3), .ref (g 5), .ref (g 4), .int (nI 0), .int (nI 0), .int (nI 3), .int (nI 0)])), (g 1, .inr (1, [.int (nI 0), .ref e0, .int (nI 0)])), (g 2, .inr (1, [.int (nI 0), .ref e0, .int (nI 0)])), (g 3, .inr (1, [.int (nI 0), .ref e0, .int (nI 0)])), (g 4, .inr (1, [.int (nI 0), .ref e0, .int (nI 0)])), (g 5, .inl (cII, 3, .inr (.inr (.inr (.inr (fun i => if i < 3 then some (g 5 + 1 + i) else none)))))), (g 5 + 1, .inl (cI, 2, .inl (fun _ => (0 : Int32)))), (g 5 + 2, .inl (cI, 2, .inl (fun _ => (0 : Int32)))), (g 5 + 3, .inl (cI, 2, .inl (fun _ => (0 : Int32))))]) rfl (by decide) rfl ?_
      refine V.widen (k := 5) (n := 13) (Nat.le_of_ble_eq_true rfl) (Nat.le_of_ble_eq_true rfl) ?_
      exact hQ _ _ _ _ _ (Or.inr (Or.inl ⟨_, _, dX10_ofCellNow_31, rfl, by first | rfl | exact nar_bI _, rfl, rfl⟩)) ⟨rfl, rfl⟩
  · skip
    refine V.aload_n C dX10_ofCellNow_11 rfl ?_
    refine V.get C (q0 := 0) (k := 4) rfl rfl (by decide) (iz_X10 _) (List.mem_cons_of_mem _ tw_92) rfl rfl dX10_ofCellNow_12 ?_
    refine V.iload_n C dX10_ofCellNow_15 rfl ?_
    refine V.aaldA C (q0 := 5) (t0 := 2) (j := 2) (r := g 5 + 3) rfl rfl rfl (by decide) (by decide) rfl dX10_ofCellNow_16 ?_
    refine V.iload_n C dX10_ofCellNow_17 rfl ?_
    refine V.iald C (q0 := 8) (t0 := 0) rfl rfl rfl (by decide) (by decide) dX10_ofCellNow_18 ?_
    refine V.topi (y := nI 0) (by first | rfl | simp [upd, nI_0]) ?_
    refine V.reord [0, 1, 2, 3, 4, 5, 6, 7, 8] (w' := [(g 0, .inr (12, [.int (nI 0), .ref (g 1), .ref (g 2), .ref (g 3), .ref (g 5), .ref (g 4), .int (nI 0), .int (nI 0), .int (nI 3), .int (nI 0)])), (g 1, .inr (1, [.int (nI 0), .ref e0, .int (nI 0)])), (g 2, .inr (1, [.int (nI 0), .ref e0, .int (nI 0)])), (g 3, .inr (1, [.int (nI 0), .ref e0, .int (nI 0)])), (g 4, .inr (1, [.int (nI 0), .ref e0, .int (nI 0)])), (g 5, .inl (cII, 3, .inr (.inr (.inr (.inr (fun i => if i < 3 then some (g 5 + 1 + i) else none)))))), (g 5 + 1, .inl (cI, 2, .inl (fun _ => (0 : Int32)))), (g 5 + 2, .inl (cI, 2, .inl (fun _ => (0 : Int32)))), (g 5 + 3, .inl (cI, 2, .inl (fun _ => (0 : Int32))))]) rfl (by decide) rfl ?_
    refine V.widen (k := 5) (n := 13) (Nat.le_of_ble_eq_true rfl) (Nat.le_of_ble_eq_true rfl) ?_
    exact hQ _ _ _ _ _ (Or.inr (Or.inl ⟨_, _, dX10_ofCellNow_19, rfl, by first | rfl | exact nar_bI _, rfl, rfl⟩)) ⟨rfl, rfl⟩
set_option maxRecDepth 100000 in
set_option maxHeartbeats 4000000 in
theorem cz_X10_nextNow {l : Launch} {D : va_G} {cI cL cII cO : ClassId} {e0 : Nat} {g : Nat → Nat} {v : Int32} : CtZ l D (TY cI cL cII cO) e0 yX10_nextNow (Cond.code yX10_nextNow cX10_nextNow 6 (some .int) :: TBL) ({ frames := 1, cells := 0, slots := 0, locals := 20 } : Room) (MF cI cII e0 g ((nI 0))) [.ref (g 0), .int (v)] (fun r z => r = some (.int (-1)) ∧ z = (MF cI cII e0 g ((nI 0)))) := by
  refine CtZ.of [some (.ref (g 0)), some (.int (v)), none, none, none, none] (by decide) rfl rfl (Nat.le_of_ble_eq_true rfl) rfl (fun κ C ZE hQ => ?_)
  refine V.iconst C (v := -1) dX10_nextNow_0 (by decide) ?_
  refine V.istore_n C dX10_nextNow_1 (by decide) rfl ?_
  dsimp only [List.set, Fin.val]
  refine V.iconst C (v := nI 0) dX10_nextNow_2 (by decide) ?_
  refine V.istore_n C dX10_nextNow_3 (by decide) rfl ?_
  dsimp only [List.set, Fin.val]
  refine V.iload_n C dX10_nextNow_4 rfl ?_
  refine V.aload_n C dX10_nextNow_5 rfl ?_
  refine V.get C (q0 := 0) (k := 2) rfl rfl (by decide) (iz_X10 _) (List.mem_cons_of_mem _ tw_75) rfl rfl dX10_nextNow_6 ?_
  refine V.zVin C ZE (cz_Jx4a65c_size_8abf5 (k := 2) rfl) gz_X10_41 (n := 0) ⟨rfl, by decide, by decide, by decide +kernel⟩ rfl (q0 := 2) rfl rfl rfl ⟨Nat.le_of_ble_eq_true rfl, Nat.le_of_ble_eq_true rfl⟩ ⟨Nat.le_of_ble_eq_true rfl, Nat.le_of_ble_eq_true rfl⟩ (Nat.le_of_ble_eq_true rfl) rfl dX10_nextNow_9 ?_
  refine V.icmp_ge C (tgt := 136) dX10_nextNow_12 (by decide) (fun c12 => ?_) (fun c12 => ?_)
  rotate_left
  · exfalso; exact absurd c12 (by decide +kernel)
  refine V.iload_n C dX10_nextNow_136 rfl ?_
  refine V.widen (k := 0) (n := 0) (Nat.le_of_ble_eq_true rfl) (Nat.le_of_ble_eq_true rfl) ?_
  exact hQ _ _ _ _ _ (Or.inr (Or.inl ⟨_, _, dX10_nextNow_137, rfl, by first | rfl | exact nar_bI _, rfl, rfl⟩)) ⟨rfl, rfl⟩
set_option maxRecDepth 100000 in
set_option maxHeartbeats 4000000 in
theorem cz_X10_sum_ {l : Launch} {D : va_G} {cI cL cII cO : ClassId} {e0 : Nat} {t : Nat} {w : va_W} {k q : Nat} {a b : Int32} (hk : w[k]? = some (q, .inl (cL, 0, .inr (.inl (fun _ => (0 : Int64)))))) : CtZ l D (TY cI cL cII cO) e0 yX10_sum_ (Cond.code yX10_sum_ cX10_sum_ 7 (some .long) :: TBL) ({ frames := 0, cells := 0, slots := 0, locals := 0 } : Room) w [.ref t, .ref q, .int (a), .int (b)] (fun r z => r = some (.long 0) ∧ z = w) := by
  refine CtZ.of [some (.ref t), some (.ref q), some (.int (a)), some (.int (b)), none, none, none] (by decide) rfl rfl (Nat.le_of_ble_eq_true rfl) rfl (fun κ C ZE hQ => ?_)
  refine V.lconst C (v := 0) dX10_sum__0 (by decide) ?_
  refine V.lstore C dX10_sum__1 (by decide) rfl ?_
  dsimp only [List.set]
  refine V.iconst C (v := nI 0) dX10_sum__3 (by decide) ?_
  refine V.istore C dX10_sum__4 (by decide) rfl ?_
  dsimp only [List.set]
  refine V.iload C dX10_sum__6 rfl ?_
  refine V.aload_n C dX10_sum__8 rfl ?_
  refine V.alen C (q0 := k) (t0 := 1) hk rfl dX10_sum__9 ?_
  refine V.icmp_ge C (tgt := 43) dX10_sum__10 (by decide) (fun c10 => ?_) (fun c10 => ?_)
  rotate_left
  · exfalso; exact absurd c10 (by decide +kernel)
  refine V.lload C dX10_sum__43 rfl ?_
  refine V.widen (k := 0) (n := 0) (Nat.le_of_ble_eq_true rfl) (Nat.le_of_ble_eq_true rfl) ?_
  exact hQ _ _ _ _ _ (Or.inr (Or.inr (Or.inl ⟨_, dX10_sum__45, rfl, rfl, rfl⟩))) ⟨rfl, rfl⟩
set_option maxRecDepth 100000 in
set_option maxHeartbeats 4000000 in
theorem cz_X10_rake {l : Launch} {D : va_G} {cI cL cII cO : ClassId} {e0 : Nat} {g : Nat → Nat} {w : va_W} {k q : Nat} {a b : Int32} (hk : w[k]? = some (q, .inl (cL, 0, .inr (.inl (fun _ => (0 : Int64)))))) (h0 : w[0]? = some (g 0, .inr (12, [.int (nI 0), .ref (g 1), .ref (g 2), .ref (g 3), .ref (g 5), .ref (g 4), .int (nI 0), .int (nI 0), .int (nI 3), .int (nI 0)]))) : CtZ l D (TY cI cL cII cO) e0 yX10_rake (Cond.code yX10_rake cX10_rake 7 none :: TBL) ({ frames := 1, cells := 0, slots := 0, locals := 26 } : Room) w [.ref (g 0), .ref q, .int (a), .int (b)] (fun r z => r = none ∧ z = w) := by
  refine CtZ.of [some (.ref (g 0)), some (.ref q), some (.int (a)), some (.int (b)), none, none, none] (by decide) rfl rfl (Nat.le_of_ble_eq_true rfl) rfl (fun κ C ZE hQ => ?_)
  refine V.aload_n C dX10_rake_0 rfl ?_
  refine V.aload_n C dX10_rake_1 rfl ?_
  refine V.iload_n C dX10_rake_2 rfl ?_
  refine V.iload_n C dX10_rake_3 rfl ?_
  refine V.zVin C ZE (cz_X10_sum_ (k := k) hk) gz_X10_229 (n := 3) ⟨rfl, by decide, by decide, by decide +kernel⟩ rfl (q0 := 0) h0 rfl rfl ⟨Nat.le_of_ble_eq_true rfl, Nat.le_of_ble_eq_true rfl⟩ ⟨Nat.le_of_ble_eq_true rfl, Nat.le_of_ble_eq_true rfl⟩ (Nat.le_of_ble_eq_true rfl) rfl dX10_rake_4 ?_
  refine V.lstore C dX10_rake_7 (by decide) rfl ?_
  dsimp only [List.set]
  refine V.iconst C (v := nI 0) dX10_rake_9 (by decide) ?_
  refine V.istore C dX10_rake_10 (by decide) rfl ?_
  dsimp only [List.set]
  refine V.iload C dX10_rake_12 rfl ?_
  refine V.aload_n C dX10_rake_14 rfl ?_
  refine V.alen C (q0 := k) (t0 := 1) hk rfl dX10_rake_15 ?_
  refine V.icmp_ge C (tgt := 62) dX10_rake_16 (by decide) (fun c16 => ?_) (fun c16 => ?_)
  rotate_left
  · exfalso; exact absurd c16 (by decide +kernel)
  refine V.widen (k := 0) (n := 0) (Nat.le_of_ble_eq_true rfl) (Nat.le_of_ble_eq_true rfl) ?_
  exact hQ _ _ _ _ _ (Or.inl ⟨dX10_rake_62, rfl, rfl, rfl⟩) ⟨rfl, rfl⟩
set_option maxRecDepth 100000 in
set_option maxHeartbeats 4000000 in
theorem cz_X10_weights {l : Launch} {D : va_G} {cI cL cII cO : ClassId} {e0 : Nat} {g : Nat → Nat} {n : Nat} (hn : n ≤ 9) : CtZ l D (TY cI cL cII cO) e0 yX10_weights (Cond.code yX10_weights cX10_weights 5 (some (.array .long)) :: TBL) ({ frames := 2, cells := 1, slots := 0, locals := 52 } : Room) (MF cI cII e0 g ((nI 0))) [.ref (g 0), .int (nI n)] (fun r z => ∃ q, r = some (.ref q) ∧ z = (MF cI cII e0 g ((nI 0))) ++ [(q, .inl (cL, 0, .inr (.inl (fun _ => (0 : Int64)))))]) := by
  refine CtZ.of [some (.ref (g 0)), some (.int (nI n)), none, none, none] (by decide) rfl rfl (Nat.le_of_ble_eq_true rfl) rfl (fun κ C ZE hQ => ?_)
  refine V.aload_n C dX10_weights_0 rfl ?_
  refine V.get C (q0 := 0) (k := 3) rfl rfl (by decide) (iz_X10 _) (List.mem_cons_of_mem _ tw_80) rfl rfl dX10_weights_1 ?_
  refine V.zVin C ZE (cz_Jx4a65c_size_8abf5 (k := 3) rfl) gz_X10_41 (n := 0) ⟨rfl, by decide, by decide, by decide +kernel⟩ rfl (q0 := 3) rfl rfl rfl ⟨Nat.le_of_ble_eq_true rfl, Nat.le_of_ble_eq_true rfl⟩ ⟨Nat.le_of_ble_eq_true rfl, Nat.le_of_ble_eq_true rfl⟩ (Nat.le_of_ble_eq_true rfl) rfl dX10_weights_4 ?_
  refine V.newarrayL C (t0 := 1) (N := 0) rfl rfl (by decide) (List.mem_cons_of_mem _ tw_122) (Nat.le_of_ble_eq_true rfl) (Nat.le_of_ble_eq_true rfl) dX10_weights_7 (fun q1 => ?_)
  refine V.astore_n C dX10_weights_9 (by decide) rfl ?_
  dsimp only [List.set, Fin.val]
  refine V.iconst C (v := nI 0) dX10_weights_10 (by decide) ?_
  refine V.istore_n C dX10_weights_11 (by decide) rfl ?_
  dsimp only [List.set, Fin.val]
  refine V.iload_n C dX10_weights_12 rfl ?_
  refine V.aload_n C dX10_weights_13 rfl ?_
  refine V.alen C (q0 := 9) (t0 := 1) rfl rfl dX10_weights_14 ?_
  refine V.icmp_ge C (tgt := 52) dX10_weights_15 (by decide) (fun c15 => ?_) (fun c15 => ?_)
  rotate_left
  · exfalso; exact absurd c15 (by decide +kernel)
  refine V.iconst C (v := nI 0) dX10_weights_52 (by decide) ?_
  refine V.istore_n C dX10_weights_53 (by decide) rfl ?_
  dsimp only [List.set, Fin.val]
  refine V.loop (n) (fun k => (MF cI cII e0 g ((nI 0))) ++ [(q1, .inl (cL, 0, .inr (.inl (fun _ => (0 : Int64)))))]) (fun k => [some (.ref (g 0)), some (.int (nI n)), some (.ref q1), some (.int (nI k)), none]) (fun k hk ih => ?_) ?_ rfl (lsub_s rfl (lsub_s rfl (lsub_s rfl (lsub_s rfl (lsub_n (lsub_e))))))
  · try dsimp only
    refine V.iload_n C dX10_weights_54 rfl ?_
    refine V.iload_n C dX10_weights_55 rfl ?_
    refine V.icmp_ge C (tgt := 111) dX10_weights_56 (by decide) (fun c56 => ?_) (fun c56 => ?_)
    · exfalso; exact c56 (nI_lt hk (by omega))
    refine V.iconst C (v := nI 0) dX10_weights_59 (by decide) ?_
    refine V.istore C dX10_weights_60 (by decide) rfl ?_
    dsimp only [List.set]
    refine V.iload C dX10_weights_62 rfl ?_
    refine V.iconst C (v := nI 3) dX10_weights_64 (by decide) ?_
    refine V.icmp_ge C (tgt := 82) dX10_weights_65 (by decide) (fun c65 => ?_) (fun c65 => ?_)
    · exfalso; exact absurd c65 (by decide +kernel)
    refine V.aload_n C dX10_weights_68 rfl ?_
    refine V.aload_n C dX10_weights_69 rfl ?_
    refine V.iload C dX10_weights_70 rfl ?_
    refine V.iconst C (v := -1) dX10_weights_72 (by decide) ?_
    refine V.zVvn C ZE (cz_X10_rake (k := 9) rfl rfl) gz_X10_223 (n := 3) ⟨rfl, by decide, by decide, by decide +kernel⟩ rfl (q0 := 0) rfl rfl rfl ⟨Nat.le_of_ble_eq_true rfl, Nat.le_of_ble_eq_true rfl⟩ ⟨Nat.le_of_ble_eq_true rfl, Nat.le_of_ble_eq_true rfl⟩ (Nat.le_of_ble_eq_true rfl) rfl dX10_weights_73 ?_
    refine V.iinc C (v := nI 1) dX10_weights_76 rfl (by decide +kernel) (by decide) rfl ?_
    dsimp only [List.set]
    refine V.goto C (tgt := 62) dX10_weights_79 (by decide) ?_
    refine V.iload C dX10_weights_62 rfl ?_
    refine V.iconst C (v := nI 3) dX10_weights_64 (by decide) ?_
    refine V.icmp_ge C (tgt := 82) dX10_weights_65 (by decide) (fun c65 => ?_) (fun c65 => ?_)
    · exfalso; exact absurd c65 (by decide +kernel)
    refine V.aload_n C dX10_weights_68 rfl ?_
    refine V.aload_n C dX10_weights_69 rfl ?_
    refine V.iload C dX10_weights_70 rfl ?_
    refine V.iconst C (v := -1) dX10_weights_72 (by decide) ?_
    refine V.zVvn C ZE (cz_X10_rake (k := 9) rfl rfl) gz_X10_223 (n := 3) ⟨rfl, by decide, by decide, by decide +kernel⟩ rfl (q0 := 0) rfl rfl rfl ⟨Nat.le_of_ble_eq_true rfl, Nat.le_of_ble_eq_true rfl⟩ ⟨Nat.le_of_ble_eq_true rfl, Nat.le_of_ble_eq_true rfl⟩ (Nat.le_of_ble_eq_true rfl) rfl dX10_weights_73 ?_
    refine V.iinc C (v := nI 2) dX10_weights_76 rfl (by decide +kernel) (by decide) rfl ?_
    dsimp only [List.set]
    refine V.goto C (tgt := 62) dX10_weights_79 (by decide) ?_
    refine V.iload C dX10_weights_62 rfl ?_
    refine V.iconst C (v := nI 3) dX10_weights_64 (by decide) ?_
    refine V.icmp_ge C (tgt := 82) dX10_weights_65 (by decide) (fun c65 => ?_) (fun c65 => ?_)
    · exfalso; exact absurd c65 (by decide +kernel)
    refine V.aload_n C dX10_weights_68 rfl ?_
    refine V.aload_n C dX10_weights_69 rfl ?_
    refine V.iload C dX10_weights_70 rfl ?_
    refine V.iconst C (v := -1) dX10_weights_72 (by decide) ?_
    refine V.zVvn C ZE (cz_X10_rake (k := 9) rfl rfl) gz_X10_223 (n := 3) ⟨rfl, by decide, by decide, by decide +kernel⟩ rfl (q0 := 0) rfl rfl rfl ⟨Nat.le_of_ble_eq_true rfl, Nat.le_of_ble_eq_true rfl⟩ ⟨Nat.le_of_ble_eq_true rfl, Nat.le_of_ble_eq_true rfl⟩ (Nat.le_of_ble_eq_true rfl) rfl dX10_weights_73 ?_
    refine V.iinc C (v := nI 3) dX10_weights_76 rfl (by decide +kernel) (by decide) rfl ?_
    dsimp only [List.set]
    refine V.goto C (tgt := 62) dX10_weights_79 (by decide) ?_
    refine V.iload C dX10_weights_62 rfl ?_
    refine V.iconst C (v := nI 3) dX10_weights_64 (by decide) ?_
    refine V.icmp_ge C (tgt := 82) dX10_weights_65 (by decide) (fun c65 => ?_) (fun c65 => ?_)
    rotate_left
    · exfalso; exact absurd c65 (by decide +kernel)
    refine V.iconst C (v := nI 0) dX10_weights_82 (by decide) ?_
    refine V.istore C dX10_weights_83 (by decide) rfl ?_
    dsimp only [List.set]
    refine V.iload C dX10_weights_85 rfl ?_
    refine V.iconst C (v := nI 2) dX10_weights_87 (by decide) ?_
    refine V.icmp_ge C (tgt := 105) dX10_weights_88 (by decide) (fun c88 => ?_) (fun c88 => ?_)
    · exfalso; exact absurd c88 (by decide +kernel)
    refine V.aload_n C dX10_weights_91 rfl ?_
    refine V.aload_n C dX10_weights_92 rfl ?_
    refine V.iconst C (v := -1) dX10_weights_93 (by decide) ?_
    refine V.iload C dX10_weights_94 rfl ?_
    refine V.zVvn C ZE (cz_X10_rake (k := 9) rfl rfl) gz_X10_223 (n := 3) ⟨rfl, by decide, by decide, by decide +kernel⟩ rfl (q0 := 0) rfl rfl rfl ⟨Nat.le_of_ble_eq_true rfl, Nat.le_of_ble_eq_true rfl⟩ ⟨Nat.le_of_ble_eq_true rfl, Nat.le_of_ble_eq_true rfl⟩ (Nat.le_of_ble_eq_true rfl) rfl dX10_weights_96 ?_
    refine V.iinc C (v := nI 1) dX10_weights_99 rfl (by decide +kernel) (by decide) rfl ?_
    dsimp only [List.set]
    refine V.goto C (tgt := 85) dX10_weights_102 (by decide) ?_
    refine V.iload C dX10_weights_85 rfl ?_
    refine V.iconst C (v := nI 2) dX10_weights_87 (by decide) ?_
    refine V.icmp_ge C (tgt := 105) dX10_weights_88 (by decide) (fun c88 => ?_) (fun c88 => ?_)
    · exfalso; exact absurd c88 (by decide +kernel)
    refine V.aload_n C dX10_weights_91 rfl ?_
    refine V.aload_n C dX10_weights_92 rfl ?_
    refine V.iconst C (v := -1) dX10_weights_93 (by decide) ?_
    refine V.iload C dX10_weights_94 rfl ?_
    refine V.zVvn C ZE (cz_X10_rake (k := 9) rfl rfl) gz_X10_223 (n := 3) ⟨rfl, by decide, by decide, by decide +kernel⟩ rfl (q0 := 0) rfl rfl rfl ⟨Nat.le_of_ble_eq_true rfl, Nat.le_of_ble_eq_true rfl⟩ ⟨Nat.le_of_ble_eq_true rfl, Nat.le_of_ble_eq_true rfl⟩ (Nat.le_of_ble_eq_true rfl) rfl dX10_weights_96 ?_
    refine V.iinc C (v := nI 2) dX10_weights_99 rfl (by decide +kernel) (by decide) rfl ?_
    dsimp only [List.set]
    refine V.goto C (tgt := 85) dX10_weights_102 (by decide) ?_
    refine V.iload C dX10_weights_85 rfl ?_
    refine V.iconst C (v := nI 2) dX10_weights_87 (by decide) ?_
    refine V.icmp_ge C (tgt := 105) dX10_weights_88 (by decide) (fun c88 => ?_) (fun c88 => ?_)
    rotate_left
    · exfalso; exact absurd c88 (by decide +kernel)
    refine V.iinc C (v := nI (k + 1)) dX10_weights_105 rfl (nI_inc k) (by decide) rfl ?_
    dsimp only [List.set]
    refine V.goto C (tgt := 54) dX10_weights_108 (by decide) ?_
    exact V.sub (M := [some (.ref (g 0)), some (.int (nI n)), some (.ref q1), some (.int (nI (k + 1))), none]) (lsub_s rfl (lsub_s rfl (lsub_s rfl (lsub_s rfl (lsub_n (lsub_e)))))) ih
  · try dsimp only
    refine V.iload_n C dX10_weights_54 rfl ?_
    refine V.iload_n C dX10_weights_55 rfl ?_
    refine V.icmp_ge C (tgt := 111) dX10_weights_56 (by decide) (fun c56 => ?_) (fun c56 => ?_)
    rotate_left
    · exfalso; exact absurd c56 (nI_nlt (Nat.le_refl _) (by omega))
    refine V.aload_n C dX10_weights_111 rfl ?_
    refine V.widen (k := 1) (n := 0) (Nat.le_of_ble_eq_true rfl) (Nat.le_of_ble_eq_true rfl) ?_
    exact hQ _ _ _ _ _ (Or.inr (Or.inr (Or.inr (Or.inl ⟨_, _, dX10_weights_112, rfl, Or.inr ⟨_, rfl⟩, rfl, rfl⟩)))) ⟨_, rfl, rfl⟩
set_option maxRecDepth 100000 in
set_option maxHeartbeats 4000000 in
theorem cz_X10_offNow {l : Launch} {D : va_G} {cI cL cII cO : ClassId} {e0 : Nat} {g : Nat → Nat} {n : Nat} (hn : n ≤ 9) : CtZ l D (TY cI cL cII cO) e0 yX10_offNow (Cond.code yX10_offNow cX10_offNow 6 (some .int) :: TBL) ({ frames := 3, cells := 1, slots := 0, locals := 76 } : Room) (MF cI cII e0 g ((nI 0))) [.ref (g 0), .int (nI n)] (fun r z => r = some (.int (nI 0)) ∧ z = (MF cI cII e0 g ((nI 0)))) := by
  refine CtZ.of [some (.ref (g 0)), some (.int (nI n)), none, none, none, none] (by decide) rfl rfl (Nat.le_of_ble_eq_true rfl) rfl (fun κ C ZE hQ => ?_)
  refine V.aload_n C dX10_offNow_0 rfl ?_
  refine V.iload_n C dX10_offNow_1 rfl ?_
  refine V.zVqx C ZE (X := []) (cz_X10_weights (n := n) hn) (by first | rfl | exact (List.append_nil _).symm) gz_X10_235 (n := 1) ⟨rfl, by decide, by decide, by decide +kernel⟩ rfl (q0 := 0) rfl rfl rfl ⟨Nat.le_of_ble_eq_true rfl, Nat.le_of_ble_eq_true rfl⟩ ⟨Nat.le_of_ble_eq_true rfl, Nat.le_of_ble_eq_true rfl⟩ (Nat.le_of_ble_eq_true rfl) rfl dX10_offNow_2 (fun q1 => ?_)
  refine V.astore_n C dX10_offNow_5 (by decide) rfl ?_
  dsimp only [List.set, Fin.val]
  refine V.lconst C (v := 0) dX10_offNow_6 (by decide) ?_
  refine V.lstore_n C dX10_offNow_7 (by decide) rfl ?_
  dsimp only [List.set, Fin.val]
  refine V.iconst C (v := nI 0) dX10_offNow_8 (by decide) ?_
  refine V.istore C dX10_offNow_9 (by decide) rfl ?_
  dsimp only [List.set]
  refine V.iload C dX10_offNow_11 rfl ?_
  refine V.iconst C (v := nI 3) dX10_offNow_13 (by decide) ?_
  refine V.icmp_ge C (tgt := 61) dX10_offNow_14 (by decide) (fun c14 => ?_) (fun c14 => ?_)
  · exfalso; exact absurd c14 (by decide +kernel)
  refine V.aload_n C dX10_offNow_17 rfl ?_
  refine V.aload_n C dX10_offNow_18 rfl ?_
  refine V.iload C dX10_offNow_19 rfl ?_
  refine V.iconst C (v := -1) dX10_offNow_21 (by decide) ?_
  refine V.zVin C ZE (cz_X10_sum_ (k := 9) rfl) gz_X10_229 (n := 3) ⟨rfl, by decide, by decide, by decide +kernel⟩ rfl (q0 := 0) rfl rfl rfl ⟨Nat.le_of_ble_eq_true rfl, Nat.le_of_ble_eq_true rfl⟩ ⟨Nat.le_of_ble_eq_true rfl, Nat.le_of_ble_eq_true rfl⟩ (Nat.le_of_ble_eq_true rfl) rfl dX10_offNow_22 ?_
  refine V.lconst C (v := 0) dX10_offNow_25 (by decide) ?_
  refine V.lcmp C dX10_offNow_26 ?_
  refine V.if_le C (tgt := 55) dX10_offNow_27 (by decide) (fun c27 => ?_) (fun c27 => ?_)
  rotate_left
  · exfalso; exact absurd c27 (by decide +kernel)
  refine V.iinc C (v := nI 1) dX10_offNow_55 rfl (by decide +kernel) (by decide) rfl ?_
  dsimp only [List.set]
  refine V.goto C (tgt := 11) dX10_offNow_58 (by decide) ?_
  refine V.iload C dX10_offNow_11 rfl ?_
  refine V.iconst C (v := nI 3) dX10_offNow_13 (by decide) ?_
  refine V.icmp_ge C (tgt := 61) dX10_offNow_14 (by decide) (fun c14 => ?_) (fun c14 => ?_)
  · exfalso; exact absurd c14 (by decide +kernel)
  refine V.aload_n C dX10_offNow_17 rfl ?_
  refine V.aload_n C dX10_offNow_18 rfl ?_
  refine V.iload C dX10_offNow_19 rfl ?_
  refine V.iconst C (v := -1) dX10_offNow_21 (by decide) ?_
  refine V.zVin C ZE (cz_X10_sum_ (k := 9) rfl) gz_X10_229 (n := 3) ⟨rfl, by decide, by decide, by decide +kernel⟩ rfl (q0 := 0) rfl rfl rfl ⟨Nat.le_of_ble_eq_true rfl, Nat.le_of_ble_eq_true rfl⟩ ⟨Nat.le_of_ble_eq_true rfl, Nat.le_of_ble_eq_true rfl⟩ (Nat.le_of_ble_eq_true rfl) rfl dX10_offNow_22 ?_
  refine V.lconst C (v := 0) dX10_offNow_25 (by decide) ?_
  refine V.lcmp C dX10_offNow_26 ?_
  refine V.if_le C (tgt := 55) dX10_offNow_27 (by decide) (fun c27 => ?_) (fun c27 => ?_)
  rotate_left
  · exfalso; exact absurd c27 (by decide +kernel)
  refine V.iinc C (v := nI 2) dX10_offNow_55 rfl (by decide +kernel) (by decide) rfl ?_
  dsimp only [List.set]
  refine V.goto C (tgt := 11) dX10_offNow_58 (by decide) ?_
  refine V.iload C dX10_offNow_11 rfl ?_
  refine V.iconst C (v := nI 3) dX10_offNow_13 (by decide) ?_
  refine V.icmp_ge C (tgt := 61) dX10_offNow_14 (by decide) (fun c14 => ?_) (fun c14 => ?_)
  · exfalso; exact absurd c14 (by decide +kernel)
  refine V.aload_n C dX10_offNow_17 rfl ?_
  refine V.aload_n C dX10_offNow_18 rfl ?_
  refine V.iload C dX10_offNow_19 rfl ?_
  refine V.iconst C (v := -1) dX10_offNow_21 (by decide) ?_
  refine V.zVin C ZE (cz_X10_sum_ (k := 9) rfl) gz_X10_229 (n := 3) ⟨rfl, by decide, by decide, by decide +kernel⟩ rfl (q0 := 0) rfl rfl rfl ⟨Nat.le_of_ble_eq_true rfl, Nat.le_of_ble_eq_true rfl⟩ ⟨Nat.le_of_ble_eq_true rfl, Nat.le_of_ble_eq_true rfl⟩ (Nat.le_of_ble_eq_true rfl) rfl dX10_offNow_22 ?_
  refine V.lconst C (v := 0) dX10_offNow_25 (by decide) ?_
  refine V.lcmp C dX10_offNow_26 ?_
  refine V.if_le C (tgt := 55) dX10_offNow_27 (by decide) (fun c27 => ?_) (fun c27 => ?_)
  rotate_left
  · exfalso; exact absurd c27 (by decide +kernel)
  refine V.iinc C (v := nI 3) dX10_offNow_55 rfl (by decide +kernel) (by decide) rfl ?_
  dsimp only [List.set]
  refine V.goto C (tgt := 11) dX10_offNow_58 (by decide) ?_
  refine V.iload C dX10_offNow_11 rfl ?_
  refine V.iconst C (v := nI 3) dX10_offNow_13 (by decide) ?_
  refine V.icmp_ge C (tgt := 61) dX10_offNow_14 (by decide) (fun c14 => ?_) (fun c14 => ?_)
  rotate_left
  · exfalso; exact absurd c14 (by decide +kernel)
  refine V.iconst C (v := nI 0) dX10_offNow_61 (by decide) ?_
  refine V.istore C dX10_offNow_62 (by decide) rfl ?_
  dsimp only [List.set]
  refine V.iload C dX10_offNow_64 rfl ?_
  refine V.iconst C (v := nI 2) dX10_offNow_66 (by decide) ?_
  refine V.icmp_ge C (tgt := 114) dX10_offNow_67 (by decide) (fun c67 => ?_) (fun c67 => ?_)
  · exfalso; exact absurd c67 (by decide +kernel)
  refine V.aload_n C dX10_offNow_70 rfl ?_
  refine V.aload_n C dX10_offNow_71 rfl ?_
  refine V.iconst C (v := -1) dX10_offNow_72 (by decide) ?_
  refine V.iload C dX10_offNow_73 rfl ?_
  refine V.zVin C ZE (cz_X10_sum_ (k := 9) rfl) gz_X10_229 (n := 3) ⟨rfl, by decide, by decide, by decide +kernel⟩ rfl (q0 := 0) rfl rfl rfl ⟨Nat.le_of_ble_eq_true rfl, Nat.le_of_ble_eq_true rfl⟩ ⟨Nat.le_of_ble_eq_true rfl, Nat.le_of_ble_eq_true rfl⟩ (Nat.le_of_ble_eq_true rfl) rfl dX10_offNow_75 ?_
  refine V.lconst C (v := 0) dX10_offNow_78 (by decide) ?_
  refine V.lcmp C dX10_offNow_79 ?_
  refine V.if_le C (tgt := 108) dX10_offNow_80 (by decide) (fun c80 => ?_) (fun c80 => ?_)
  rotate_left
  · exfalso; exact absurd c80 (by decide +kernel)
  refine V.iinc C (v := nI 1) dX10_offNow_108 rfl (by decide +kernel) (by decide) rfl ?_
  dsimp only [List.set]
  refine V.goto C (tgt := 64) dX10_offNow_111 (by decide) ?_
  refine V.iload C dX10_offNow_64 rfl ?_
  refine V.iconst C (v := nI 2) dX10_offNow_66 (by decide) ?_
  refine V.icmp_ge C (tgt := 114) dX10_offNow_67 (by decide) (fun c67 => ?_) (fun c67 => ?_)
  · exfalso; exact absurd c67 (by decide +kernel)
  refine V.aload_n C dX10_offNow_70 rfl ?_
  refine V.aload_n C dX10_offNow_71 rfl ?_
  refine V.iconst C (v := -1) dX10_offNow_72 (by decide) ?_
  refine V.iload C dX10_offNow_73 rfl ?_
  refine V.zVin C ZE (cz_X10_sum_ (k := 9) rfl) gz_X10_229 (n := 3) ⟨rfl, by decide, by decide, by decide +kernel⟩ rfl (q0 := 0) rfl rfl rfl ⟨Nat.le_of_ble_eq_true rfl, Nat.le_of_ble_eq_true rfl⟩ ⟨Nat.le_of_ble_eq_true rfl, Nat.le_of_ble_eq_true rfl⟩ (Nat.le_of_ble_eq_true rfl) rfl dX10_offNow_75 ?_
  refine V.lconst C (v := 0) dX10_offNow_78 (by decide) ?_
  refine V.lcmp C dX10_offNow_79 ?_
  refine V.if_le C (tgt := 108) dX10_offNow_80 (by decide) (fun c80 => ?_) (fun c80 => ?_)
  rotate_left
  · exfalso; exact absurd c80 (by decide +kernel)
  refine V.iinc C (v := nI 2) dX10_offNow_108 rfl (by decide +kernel) (by decide) rfl ?_
  dsimp only [List.set]
  refine V.goto C (tgt := 64) dX10_offNow_111 (by decide) ?_
  refine V.iload C dX10_offNow_64 rfl ?_
  refine V.iconst C (v := nI 2) dX10_offNow_66 (by decide) ?_
  refine V.icmp_ge C (tgt := 114) dX10_offNow_67 (by decide) (fun c67 => ?_) (fun c67 => ?_)
  rotate_left
  · exfalso; exact absurd c67 (by decide +kernel)
  refine V.lload_n C dX10_offNow_114 rfl ?_
  refine V.l2i C dX10_offNow_115 ?_
  refine V.topi (y := nI 0) (by decide +kernel) ?_
  refine V.reord [0, 1, 2, 3, 4, 5, 6, 7, 8] (w' := [(g 0, .inr (12, [.int (nI 0), .ref (g 1), .ref (g 2), .ref (g 3), .ref (g 5), .ref (g 4), .int (nI 0), .int (nI 0), .int (nI 3), .int (nI 0)])), (g 1, .inr (1, [.int (nI 0), .ref e0, .int (nI 0)])), (g 2, .inr (1, [.int (nI 0), .ref e0, .int (nI 0)])), (g 3, .inr (1, [.int (nI 0), .ref e0, .int (nI 0)])), (g 4, .inr (1, [.int (nI 0), .ref e0, .int (nI 0)])), (g 5, .inl (cII, 3, .inr (.inr (.inr (.inr (fun i => if i < 3 then some (g 5 + 1 + i) else none)))))), (g 5 + 1, .inl (cI, 2, .inl (fun _ => (0 : Int32)))), (g 5 + 2, .inl (cI, 2, .inl (fun _ => (0 : Int32)))), (g 5 + 3, .inl (cI, 2, .inl (fun _ => (0 : Int32))))]) rfl (by decide) rfl ?_
  refine V.widen (k := 1) (n := 0) (Nat.le_of_ble_eq_true rfl) (Nat.le_of_ble_eq_true rfl) ?_
  exact hQ _ _ _ _ _ (Or.inr (Or.inl ⟨_, _, dX10_offNow_116, rfl, by first | rfl | exact nar_bI _, rfl, rfl⟩)) ⟨rfl, rfl⟩
set_option maxRecDepth 100000 in
set_option maxHeartbeats 4000000 in
theorem cz_X10_cleanedNow {l : Launch} {D : va_G} {cI cL cII cO : ClassId} {e0 : Nat} {g : Nat → Nat} : CtZ l D (TY cI cL cII cO) e0 yX10_cleanedNow (Cond.code yX10_cleanedNow cX10_cleanedNow 6 (some .int) :: TBL) ({ frames := 4, cells := 11, slots := 30, locals := 93 } : Room) (MF cI cII e0 g ((nI 0))) [.ref (g 0)] (fun r z => r = some (.int (nI 0)) ∧ z = (MF cI cII e0 g ((nI 0)))) := by
  refine CtZ.of [some (.ref (g 0)), none, none, none, none, none] (by decide) rfl rfl (Nat.le_of_ble_eq_true rfl) rfl (fun κ C ZE hQ => ?_)
  refine V.aload_n C dX10_cleanedNow_0 rfl ?_
  refine V.zVix C ZE (X := []) (cz_X10_dirty) (by first | rfl | exact (List.append_nil _).symm) gz_X10_252 (n := 0) ⟨rfl, by decide, by decide, by decide +kernel⟩ rfl (q0 := 0) rfl rfl rfl ⟨Nat.le_of_ble_eq_true rfl, Nat.le_of_ble_eq_true rfl⟩ ⟨Nat.le_of_ble_eq_true rfl, Nat.le_of_ble_eq_true rfl⟩ (Nat.le_of_ble_eq_true rfl) rfl dX10_cleanedNow_1 ?_
  refine V.istore_n C dX10_cleanedNow_4 (by decide) rfl ?_
  dsimp only [List.set, Fin.val]
  refine V.aload_n C dX10_cleanedNow_5 rfl ?_
  refine V.iconst C (v := nI 0) dX10_cleanedNow_6 (by decide) ?_
  refine V.zVqx C ZE (X := []) (cz_X10_filled) (by first | rfl | exact (List.append_nil _).symm) gz_X10_148 (n := 1) ⟨rfl, by decide, by decide, by decide +kernel⟩ rfl (q0 := 0) rfl rfl rfl ⟨Nat.le_of_ble_eq_true rfl, Nat.le_of_ble_eq_true rfl⟩ ⟨Nat.le_of_ble_eq_true rfl, Nat.le_of_ble_eq_true rfl⟩ (Nat.le_of_ble_eq_true rfl) rfl dX10_cleanedNow_7 (fun q1 => ?_)
  refine V.astore_n C dX10_cleanedNow_10 (by decide) rfl ?_
  dsimp only [List.set, Fin.val]
  refine V.aload_n C dX10_cleanedNow_11 rfl ?_
  refine V.iconst C (v := nI 1) dX10_cleanedNow_12 (by decide) ?_
  refine V.zVqx C ZE (X := [(q1, .inl (cII, 3, .inr (.inr (.inr (.inr (fun i => if i < 3 then some (q1 + 1 + i) else none)))))), (q1 + 1, .inl (cI, 2, .inl (fun _ => (0 : Int32)))), (q1 + 2, .inl (cI, 2, .inl (fun _ => (0 : Int32)))), (q1 + 3, .inl (cI, 2, .inl (fun _ => (0 : Int32))))]) (cz_X10_filled) rfl gz_X10_148 (n := 1) ⟨rfl, by decide, by decide, by decide +kernel⟩ rfl (q0 := 0) rfl rfl rfl ⟨Nat.le_of_ble_eq_true rfl, Nat.le_of_ble_eq_true rfl⟩ ⟨Nat.le_of_ble_eq_true rfl, Nat.le_of_ble_eq_true rfl⟩ (Nat.le_of_ble_eq_true rfl) rfl dX10_cleanedNow_13 (fun q2 => ?_)
  refine V.astore_n C dX10_cleanedNow_16 (by decide) rfl ?_
  dsimp only [List.set, Fin.val]
  refine V.iconst C (v := nI 0) dX10_cleanedNow_17 (by decide) ?_
  refine V.istore C dX10_cleanedNow_18 (by decide) rfl ?_
  dsimp only [List.set]
  refine V.iload C dX10_cleanedNow_20 rfl ?_
  refine V.iconst C (v := nI 3) dX10_cleanedNow_22 (by decide) ?_
  refine V.icmp_ge C (tgt := 80) dX10_cleanedNow_23 (by decide) (fun c23 => ?_) (fun c23 => ?_)
  · exfalso; exact absurd c23 (by decide +kernel)
  refine V.iconst C (v := nI 0) dX10_cleanedNow_26 (by decide) ?_
  refine V.istore C dX10_cleanedNow_27 (by decide) rfl ?_
  dsimp only [List.set]
  refine V.iload C dX10_cleanedNow_29 rfl ?_
  refine V.iconst C (v := nI 2) dX10_cleanedNow_31 (by decide) ?_
  refine V.icmp_ge C (tgt := 74) dX10_cleanedNow_32 (by decide) (fun c32 => ?_) (fun c32 => ?_)
  · exfalso; exact absurd c32 (by decide +kernel)
  refine V.iload_n C dX10_cleanedNow_35 rfl ?_
  refine V.aload_n C dX10_cleanedNow_36 rfl ?_
  refine V.aload_n C dX10_cleanedNow_37 rfl ?_
  refine V.iload C dX10_cleanedNow_38 rfl ?_
  refine V.iload C dX10_cleanedNow_40 rfl ?_
  refine V.zVin C ZE (cz_X10_isOpen_00 (k := 13) rfl rfl rfl rfl rfl) gz_X10_152 (n := 3) ⟨rfl, by decide, by decide, by decide +kernel⟩ rfl (q0 := 0) rfl rfl rfl ⟨Nat.le_of_ble_eq_true rfl, Nat.le_of_ble_eq_true rfl⟩ ⟨Nat.le_of_ble_eq_true rfl, Nat.le_of_ble_eq_true rfl⟩ (Nat.le_of_ble_eq_true rfl) rfl dX10_cleanedNow_42 ?_
  refine V.if_ne C (tgt := 65) dX10_cleanedNow_45 (by decide) (fun c45 => ?_) (fun c45 => ?_)
  · exfalso; exact absurd c45 (by decide +kernel)
  refine V.aload_n C dX10_cleanedNow_48 rfl ?_
  refine V.aload_n C dX10_cleanedNow_49 rfl ?_
  refine V.iload C dX10_cleanedNow_50 rfl ?_
  refine V.iload C dX10_cleanedNow_52 rfl ?_
  refine V.zVin C ZE (cz_X10_isOpen_00 (k := 9) rfl rfl rfl rfl rfl) gz_X10_152 (n := 3) ⟨rfl, by decide, by decide, by decide +kernel⟩ rfl (q0 := 0) rfl rfl rfl ⟨Nat.le_of_ble_eq_true rfl, Nat.le_of_ble_eq_true rfl⟩ ⟨Nat.le_of_ble_eq_true rfl, Nat.le_of_ble_eq_true rfl⟩ (Nat.le_of_ble_eq_true rfl) rfl dX10_cleanedNow_54 ?_
  refine V.if_eq C (tgt := 65) dX10_cleanedNow_57 (by decide) (fun c57 => ?_) (fun c57 => ?_)
  rotate_left
  · exfalso; exact absurd c57 (by decide +kernel)
  refine V.iconst C (v := nI 0) dX10_cleanedNow_65 (by decide) ?_
  refine V.iadd C dX10_cleanedNow_66 ?_
  refine V.topi (y := nI 0) (by decide +kernel) ?_
  refine V.istore_n C dX10_cleanedNow_67 (by decide) rfl ?_
  dsimp only [List.set, Fin.val]
  refine V.iinc C (v := nI 1) dX10_cleanedNow_68 rfl (by decide +kernel) (by decide) rfl ?_
  dsimp only [List.set]
  refine V.goto C (tgt := 29) dX10_cleanedNow_71 (by decide) ?_
  refine V.iload C dX10_cleanedNow_29 rfl ?_
  refine V.iconst C (v := nI 2) dX10_cleanedNow_31 (by decide) ?_
  refine V.icmp_ge C (tgt := 74) dX10_cleanedNow_32 (by decide) (fun c32 => ?_) (fun c32 => ?_)
  · exfalso; exact absurd c32 (by decide +kernel)
  refine V.iload_n C dX10_cleanedNow_35 rfl ?_
  refine V.aload_n C dX10_cleanedNow_36 rfl ?_
  refine V.aload_n C dX10_cleanedNow_37 rfl ?_
  refine V.iload C dX10_cleanedNow_38 rfl ?_
  refine V.iload C dX10_cleanedNow_40 rfl ?_
  refine V.zVin C ZE (cz_X10_isOpen_01 (k := 13) rfl rfl rfl rfl rfl) gz_X10_152 (n := 3) ⟨rfl, by decide, by decide, by decide +kernel⟩ rfl (q0 := 0) rfl rfl rfl ⟨Nat.le_of_ble_eq_true rfl, Nat.le_of_ble_eq_true rfl⟩ ⟨Nat.le_of_ble_eq_true rfl, Nat.le_of_ble_eq_true rfl⟩ (Nat.le_of_ble_eq_true rfl) rfl dX10_cleanedNow_42 ?_
  refine V.if_ne C (tgt := 65) dX10_cleanedNow_45 (by decide) (fun c45 => ?_) (fun c45 => ?_)
  · exfalso; exact absurd c45 (by decide +kernel)
  refine V.aload_n C dX10_cleanedNow_48 rfl ?_
  refine V.aload_n C dX10_cleanedNow_49 rfl ?_
  refine V.iload C dX10_cleanedNow_50 rfl ?_
  refine V.iload C dX10_cleanedNow_52 rfl ?_
  refine V.zVin C ZE (cz_X10_isOpen_01 (k := 9) rfl rfl rfl rfl rfl) gz_X10_152 (n := 3) ⟨rfl, by decide, by decide, by decide +kernel⟩ rfl (q0 := 0) rfl rfl rfl ⟨Nat.le_of_ble_eq_true rfl, Nat.le_of_ble_eq_true rfl⟩ ⟨Nat.le_of_ble_eq_true rfl, Nat.le_of_ble_eq_true rfl⟩ (Nat.le_of_ble_eq_true rfl) rfl dX10_cleanedNow_54 ?_
  refine V.if_eq C (tgt := 65) dX10_cleanedNow_57 (by decide) (fun c57 => ?_) (fun c57 => ?_)
  rotate_left
  · exfalso; exact absurd c57 (by decide +kernel)
  refine V.iconst C (v := nI 0) dX10_cleanedNow_65 (by decide) ?_
  refine V.iadd C dX10_cleanedNow_66 ?_
  refine V.topi (y := nI 0) (by decide +kernel) ?_
  refine V.istore_n C dX10_cleanedNow_67 (by decide) rfl ?_
  dsimp only [List.set, Fin.val]
  refine V.iinc C (v := nI 2) dX10_cleanedNow_68 rfl (by decide +kernel) (by decide) rfl ?_
  dsimp only [List.set]
  refine V.goto C (tgt := 29) dX10_cleanedNow_71 (by decide) ?_
  refine V.iload C dX10_cleanedNow_29 rfl ?_
  refine V.iconst C (v := nI 2) dX10_cleanedNow_31 (by decide) ?_
  refine V.icmp_ge C (tgt := 74) dX10_cleanedNow_32 (by decide) (fun c32 => ?_) (fun c32 => ?_)
  rotate_left
  · exfalso; exact absurd c32 (by decide +kernel)
  refine V.iinc C (v := nI 1) dX10_cleanedNow_74 rfl (by decide +kernel) (by decide) rfl ?_
  dsimp only [List.set]
  refine V.goto C (tgt := 20) dX10_cleanedNow_77 (by decide) ?_
  refine V.iload C dX10_cleanedNow_20 rfl ?_
  refine V.iconst C (v := nI 3) dX10_cleanedNow_22 (by decide) ?_
  refine V.icmp_ge C (tgt := 80) dX10_cleanedNow_23 (by decide) (fun c23 => ?_) (fun c23 => ?_)
  · exfalso; exact absurd c23 (by decide +kernel)
  refine V.iconst C (v := nI 0) dX10_cleanedNow_26 (by decide) ?_
  refine V.istore C dX10_cleanedNow_27 (by decide) rfl ?_
  dsimp only [List.set]
  refine V.iload C dX10_cleanedNow_29 rfl ?_
  refine V.iconst C (v := nI 2) dX10_cleanedNow_31 (by decide) ?_
  refine V.icmp_ge C (tgt := 74) dX10_cleanedNow_32 (by decide) (fun c32 => ?_) (fun c32 => ?_)
  · exfalso; exact absurd c32 (by decide +kernel)
  refine V.iload_n C dX10_cleanedNow_35 rfl ?_
  refine V.aload_n C dX10_cleanedNow_36 rfl ?_
  refine V.aload_n C dX10_cleanedNow_37 rfl ?_
  refine V.iload C dX10_cleanedNow_38 rfl ?_
  refine V.iload C dX10_cleanedNow_40 rfl ?_
  refine V.zVin C ZE (cz_X10_isOpen_10 (k := 13) rfl rfl rfl rfl rfl) gz_X10_152 (n := 3) ⟨rfl, by decide, by decide, by decide +kernel⟩ rfl (q0 := 0) rfl rfl rfl ⟨Nat.le_of_ble_eq_true rfl, Nat.le_of_ble_eq_true rfl⟩ ⟨Nat.le_of_ble_eq_true rfl, Nat.le_of_ble_eq_true rfl⟩ (Nat.le_of_ble_eq_true rfl) rfl dX10_cleanedNow_42 ?_
  refine V.if_ne C (tgt := 65) dX10_cleanedNow_45 (by decide) (fun c45 => ?_) (fun c45 => ?_)
  · exfalso; exact absurd c45 (by decide +kernel)
  refine V.aload_n C dX10_cleanedNow_48 rfl ?_
  refine V.aload_n C dX10_cleanedNow_49 rfl ?_
  refine V.iload C dX10_cleanedNow_50 rfl ?_
  refine V.iload C dX10_cleanedNow_52 rfl ?_
  refine V.zVin C ZE (cz_X10_isOpen_10 (k := 9) rfl rfl rfl rfl rfl) gz_X10_152 (n := 3) ⟨rfl, by decide, by decide, by decide +kernel⟩ rfl (q0 := 0) rfl rfl rfl ⟨Nat.le_of_ble_eq_true rfl, Nat.le_of_ble_eq_true rfl⟩ ⟨Nat.le_of_ble_eq_true rfl, Nat.le_of_ble_eq_true rfl⟩ (Nat.le_of_ble_eq_true rfl) rfl dX10_cleanedNow_54 ?_
  refine V.if_eq C (tgt := 65) dX10_cleanedNow_57 (by decide) (fun c57 => ?_) (fun c57 => ?_)
  rotate_left
  · exfalso; exact absurd c57 (by decide +kernel)
  refine V.iconst C (v := nI 0) dX10_cleanedNow_65 (by decide) ?_
  refine V.iadd C dX10_cleanedNow_66 ?_
  refine V.topi (y := nI 0) (by decide +kernel) ?_
  refine V.istore_n C dX10_cleanedNow_67 (by decide) rfl ?_
  dsimp only [List.set, Fin.val]
  refine V.iinc C (v := nI 1) dX10_cleanedNow_68 rfl (by decide +kernel) (by decide) rfl ?_
  dsimp only [List.set]
  refine V.goto C (tgt := 29) dX10_cleanedNow_71 (by decide) ?_
  refine V.iload C dX10_cleanedNow_29 rfl ?_
  refine V.iconst C (v := nI 2) dX10_cleanedNow_31 (by decide) ?_
  refine V.icmp_ge C (tgt := 74) dX10_cleanedNow_32 (by decide) (fun c32 => ?_) (fun c32 => ?_)
  · exfalso; exact absurd c32 (by decide +kernel)
  refine V.iload_n C dX10_cleanedNow_35 rfl ?_
  refine V.aload_n C dX10_cleanedNow_36 rfl ?_
  refine V.aload_n C dX10_cleanedNow_37 rfl ?_
  refine V.iload C dX10_cleanedNow_38 rfl ?_
  refine V.iload C dX10_cleanedNow_40 rfl ?_
  refine V.zVin C ZE (cz_X10_isOpen_11 (k := 13) rfl rfl rfl rfl rfl) gz_X10_152 (n := 3) ⟨rfl, by decide, by decide, by decide +kernel⟩ rfl (q0 := 0) rfl rfl rfl ⟨Nat.le_of_ble_eq_true rfl, Nat.le_of_ble_eq_true rfl⟩ ⟨Nat.le_of_ble_eq_true rfl, Nat.le_of_ble_eq_true rfl⟩ (Nat.le_of_ble_eq_true rfl) rfl dX10_cleanedNow_42 ?_
  refine V.if_ne C (tgt := 65) dX10_cleanedNow_45 (by decide) (fun c45 => ?_) (fun c45 => ?_)
  · exfalso; exact absurd c45 (by decide +kernel)
  refine V.aload_n C dX10_cleanedNow_48 rfl ?_
  refine V.aload_n C dX10_cleanedNow_49 rfl ?_
  refine V.iload C dX10_cleanedNow_50 rfl ?_
  refine V.iload C dX10_cleanedNow_52 rfl ?_
  refine V.zVin C ZE (cz_X10_isOpen_11 (k := 9) rfl rfl rfl rfl rfl) gz_X10_152 (n := 3) ⟨rfl, by decide, by decide, by decide +kernel⟩ rfl (q0 := 0) rfl rfl rfl ⟨Nat.le_of_ble_eq_true rfl, Nat.le_of_ble_eq_true rfl⟩ ⟨Nat.le_of_ble_eq_true rfl, Nat.le_of_ble_eq_true rfl⟩ (Nat.le_of_ble_eq_true rfl) rfl dX10_cleanedNow_54 ?_
  refine V.if_eq C (tgt := 65) dX10_cleanedNow_57 (by decide) (fun c57 => ?_) (fun c57 => ?_)
  rotate_left
  · exfalso; exact absurd c57 (by decide +kernel)
  refine V.iconst C (v := nI 0) dX10_cleanedNow_65 (by decide) ?_
  refine V.iadd C dX10_cleanedNow_66 ?_
  refine V.topi (y := nI 0) (by decide +kernel) ?_
  refine V.istore_n C dX10_cleanedNow_67 (by decide) rfl ?_
  dsimp only [List.set, Fin.val]
  refine V.iinc C (v := nI 2) dX10_cleanedNow_68 rfl (by decide +kernel) (by decide) rfl ?_
  dsimp only [List.set]
  refine V.goto C (tgt := 29) dX10_cleanedNow_71 (by decide) ?_
  refine V.iload C dX10_cleanedNow_29 rfl ?_
  refine V.iconst C (v := nI 2) dX10_cleanedNow_31 (by decide) ?_
  refine V.icmp_ge C (tgt := 74) dX10_cleanedNow_32 (by decide) (fun c32 => ?_) (fun c32 => ?_)
  rotate_left
  · exfalso; exact absurd c32 (by decide +kernel)
  refine V.iinc C (v := nI 2) dX10_cleanedNow_74 rfl (by decide +kernel) (by decide) rfl ?_
  dsimp only [List.set]
  refine V.goto C (tgt := 20) dX10_cleanedNow_77 (by decide) ?_
  refine V.iload C dX10_cleanedNow_20 rfl ?_
  refine V.iconst C (v := nI 3) dX10_cleanedNow_22 (by decide) ?_
  refine V.icmp_ge C (tgt := 80) dX10_cleanedNow_23 (by decide) (fun c23 => ?_) (fun c23 => ?_)
  · exfalso; exact absurd c23 (by decide +kernel)
  refine V.iconst C (v := nI 0) dX10_cleanedNow_26 (by decide) ?_
  refine V.istore C dX10_cleanedNow_27 (by decide) rfl ?_
  dsimp only [List.set]
  refine V.iload C dX10_cleanedNow_29 rfl ?_
  refine V.iconst C (v := nI 2) dX10_cleanedNow_31 (by decide) ?_
  refine V.icmp_ge C (tgt := 74) dX10_cleanedNow_32 (by decide) (fun c32 => ?_) (fun c32 => ?_)
  · exfalso; exact absurd c32 (by decide +kernel)
  refine V.iload_n C dX10_cleanedNow_35 rfl ?_
  refine V.aload_n C dX10_cleanedNow_36 rfl ?_
  refine V.aload_n C dX10_cleanedNow_37 rfl ?_
  refine V.iload C dX10_cleanedNow_38 rfl ?_
  refine V.iload C dX10_cleanedNow_40 rfl ?_
  refine V.zVin C ZE (cz_X10_isOpen_20 (k := 13) rfl rfl rfl rfl rfl) gz_X10_152 (n := 3) ⟨rfl, by decide, by decide, by decide +kernel⟩ rfl (q0 := 0) rfl rfl rfl ⟨Nat.le_of_ble_eq_true rfl, Nat.le_of_ble_eq_true rfl⟩ ⟨Nat.le_of_ble_eq_true rfl, Nat.le_of_ble_eq_true rfl⟩ (Nat.le_of_ble_eq_true rfl) rfl dX10_cleanedNow_42 ?_
  refine V.if_ne C (tgt := 65) dX10_cleanedNow_45 (by decide) (fun c45 => ?_) (fun c45 => ?_)
  · exfalso; exact absurd c45 (by decide +kernel)
  refine V.aload_n C dX10_cleanedNow_48 rfl ?_
  refine V.aload_n C dX10_cleanedNow_49 rfl ?_
  refine V.iload C dX10_cleanedNow_50 rfl ?_
  refine V.iload C dX10_cleanedNow_52 rfl ?_
  refine V.zVin C ZE (cz_X10_isOpen_20 (k := 9) rfl rfl rfl rfl rfl) gz_X10_152 (n := 3) ⟨rfl, by decide, by decide, by decide +kernel⟩ rfl (q0 := 0) rfl rfl rfl ⟨Nat.le_of_ble_eq_true rfl, Nat.le_of_ble_eq_true rfl⟩ ⟨Nat.le_of_ble_eq_true rfl, Nat.le_of_ble_eq_true rfl⟩ (Nat.le_of_ble_eq_true rfl) rfl dX10_cleanedNow_54 ?_
  refine V.if_eq C (tgt := 65) dX10_cleanedNow_57 (by decide) (fun c57 => ?_) (fun c57 => ?_)
  rotate_left
  · exfalso; exact absurd c57 (by decide +kernel)
  refine V.iconst C (v := nI 0) dX10_cleanedNow_65 (by decide) ?_
  refine V.iadd C dX10_cleanedNow_66 ?_
  refine V.topi (y := nI 0) (by decide +kernel) ?_
  refine V.istore_n C dX10_cleanedNow_67 (by decide) rfl ?_
  dsimp only [List.set, Fin.val]
  refine V.iinc C (v := nI 1) dX10_cleanedNow_68 rfl (by decide +kernel) (by decide) rfl ?_
  dsimp only [List.set]
  refine V.goto C (tgt := 29) dX10_cleanedNow_71 (by decide) ?_
  refine V.iload C dX10_cleanedNow_29 rfl ?_
  refine V.iconst C (v := nI 2) dX10_cleanedNow_31 (by decide) ?_
  refine V.icmp_ge C (tgt := 74) dX10_cleanedNow_32 (by decide) (fun c32 => ?_) (fun c32 => ?_)
  · exfalso; exact absurd c32 (by decide +kernel)
  refine V.iload_n C dX10_cleanedNow_35 rfl ?_
  refine V.aload_n C dX10_cleanedNow_36 rfl ?_
  refine V.aload_n C dX10_cleanedNow_37 rfl ?_
  refine V.iload C dX10_cleanedNow_38 rfl ?_
  refine V.iload C dX10_cleanedNow_40 rfl ?_
  refine V.zVin C ZE (cz_X10_isOpen_21 (k := 13) rfl rfl rfl rfl rfl) gz_X10_152 (n := 3) ⟨rfl, by decide, by decide, by decide +kernel⟩ rfl (q0 := 0) rfl rfl rfl ⟨Nat.le_of_ble_eq_true rfl, Nat.le_of_ble_eq_true rfl⟩ ⟨Nat.le_of_ble_eq_true rfl, Nat.le_of_ble_eq_true rfl⟩ (Nat.le_of_ble_eq_true rfl) rfl dX10_cleanedNow_42 ?_
  refine V.if_ne C (tgt := 65) dX10_cleanedNow_45 (by decide) (fun c45 => ?_) (fun c45 => ?_)
  · exfalso; exact absurd c45 (by decide +kernel)
  refine V.aload_n C dX10_cleanedNow_48 rfl ?_
  refine V.aload_n C dX10_cleanedNow_49 rfl ?_
  refine V.iload C dX10_cleanedNow_50 rfl ?_
  refine V.iload C dX10_cleanedNow_52 rfl ?_
  refine V.zVin C ZE (cz_X10_isOpen_21 (k := 9) rfl rfl rfl rfl rfl) gz_X10_152 (n := 3) ⟨rfl, by decide, by decide, by decide +kernel⟩ rfl (q0 := 0) rfl rfl rfl ⟨Nat.le_of_ble_eq_true rfl, Nat.le_of_ble_eq_true rfl⟩ ⟨Nat.le_of_ble_eq_true rfl, Nat.le_of_ble_eq_true rfl⟩ (Nat.le_of_ble_eq_true rfl) rfl dX10_cleanedNow_54 ?_
  refine V.if_eq C (tgt := 65) dX10_cleanedNow_57 (by decide) (fun c57 => ?_) (fun c57 => ?_)
  rotate_left
  · exfalso; exact absurd c57 (by decide +kernel)
  refine V.iconst C (v := nI 0) dX10_cleanedNow_65 (by decide) ?_
  refine V.iadd C dX10_cleanedNow_66 ?_
  refine V.topi (y := nI 0) (by decide +kernel) ?_
  refine V.istore_n C dX10_cleanedNow_67 (by decide) rfl ?_
  dsimp only [List.set, Fin.val]
  refine V.iinc C (v := nI 2) dX10_cleanedNow_68 rfl (by decide +kernel) (by decide) rfl ?_
  dsimp only [List.set]
  refine V.goto C (tgt := 29) dX10_cleanedNow_71 (by decide) ?_
  refine V.iload C dX10_cleanedNow_29 rfl ?_
  refine V.iconst C (v := nI 2) dX10_cleanedNow_31 (by decide) ?_
  refine V.icmp_ge C (tgt := 74) dX10_cleanedNow_32 (by decide) (fun c32 => ?_) (fun c32 => ?_)
  rotate_left
  · exfalso; exact absurd c32 (by decide +kernel)
  refine V.iinc C (v := nI 3) dX10_cleanedNow_74 rfl (by decide +kernel) (by decide) rfl ?_
  dsimp only [List.set]
  refine V.goto C (tgt := 20) dX10_cleanedNow_77 (by decide) ?_
  refine V.iload C dX10_cleanedNow_20 rfl ?_
  refine V.iconst C (v := nI 3) dX10_cleanedNow_22 (by decide) ?_
  refine V.icmp_ge C (tgt := 80) dX10_cleanedNow_23 (by decide) (fun c23 => ?_) (fun c23 => ?_)
  rotate_left
  · exfalso; exact absurd c23 (by decide +kernel)
  refine V.iload_n C dX10_cleanedNow_80 rfl ?_
  refine V.reord [0, 1, 2, 3, 4, 5, 6, 7, 8] (w' := [(g 0, .inr (12, [.int (nI 0), .ref (g 1), .ref (g 2), .ref (g 3), .ref (g 5), .ref (g 4), .int (nI 0), .int (nI 0), .int (nI 3), .int (nI 0)])), (g 1, .inr (1, [.int (nI 0), .ref e0, .int (nI 0)])), (g 2, .inr (1, [.int (nI 0), .ref e0, .int (nI 0)])), (g 3, .inr (1, [.int (nI 0), .ref e0, .int (nI 0)])), (g 4, .inr (1, [.int (nI 0), .ref e0, .int (nI 0)])), (g 5, .inl (cII, 3, .inr (.inr (.inr (.inr (fun i => if i < 3 then some (g 5 + 1 + i) else none)))))), (g 5 + 1, .inl (cI, 2, .inl (fun _ => (0 : Int32)))), (g 5 + 2, .inl (cI, 2, .inl (fun _ => (0 : Int32)))), (g 5 + 3, .inl (cI, 2, .inl (fun _ => (0 : Int32))))]) rfl (by decide) rfl ?_
  refine V.widen (k := 11) (n := 30) (Nat.le_of_ble_eq_true rfl) (Nat.le_of_ble_eq_true rfl) ?_
  exact hQ _ _ _ _ _ (Or.inr (Or.inl ⟨_, _, dX10_cleanedNow_81, rfl, by first | rfl | exact nar_bI _, rfl, rfl⟩)) ⟨rfl, rfl⟩
set_option maxRecDepth 100000 in
set_option maxHeartbeats 4000000 in
theorem cz_X10_add {l : Launch} {D : va_G} {cI cL cII cO : ClassId} {e0 : Nat} {w : va_W} {x y : Int64} : CtZ l D (TY cI cL cII cO) e0 yX10_add (Cond.code yX10_add cX10_add 4 (some .long) :: TBL) ({ frames := 0, cells := 0, slots := 0, locals := 0 } : Room) w [.long (x), .long (y)] (fun r z => r = some (.long (x * 31 + y)) ∧ z = w) := by
  refine CtZ.of [some (.long (x)), none, some (.long (y)), none] (by decide) rfl rfl (Nat.le_of_ble_eq_true rfl) rfl (fun κ C ZE hQ => ?_)
  refine V.lload_n C dX10_add_0 rfl ?_
  refine V.ldc2_w C (v := 31) (List.mem_cons_of_mem _ tw_135) dX10_add_1 ?_
  refine V.lmul C dX10_add_4 ?_
  refine V.lload_n C dX10_add_5 rfl ?_
  refine V.ladd C dX10_add_6 ?_
  refine V.widen (k := 0) (n := 0) (Nat.le_of_ble_eq_true rfl) (Nat.le_of_ble_eq_true rfl) ?_
  exact hQ _ _ _ _ _ (Or.inr (Or.inr (Or.inl ⟨_, dX10_add_7, rfl, rfl, rfl⟩))) ⟨rfl, rfl⟩
