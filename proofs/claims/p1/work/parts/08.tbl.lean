def TB_0 : List Cond := [Cond.methodLink RJxa1e45 1 objectInit, Cond.instanceMethod objectInit, Cond.code objectInit ⟨#[0xb1]⟩ 1 none, Cond.code yJxa1e45_init_da8c8 cJxa1e45_init_da8c8 1 none, Cond.initialized RJxa1e45, Cond.methodLink RJxc12de 1 yJxa1e45_init_da8c8, Cond.instanceMethod yJxa1e45_init_da8c8, Cond.fieldLink RJxc12de 7 "java/util/AbstractList" "modCount" "I", Cond.code yJxc12de_init_da8c8 cJxc12de_init_da8c8 1 none, Cond.initialized RJxc12de, Cond.methodLink RJx4a65c 1 yJxc12de_init_da8c8, Cond.instanceMethod yJxc12de_init_da8c8, Cond.fieldLink RJx4a65c 39 RJx4a65c "DEFAULTCAPACITY_EMPTY_ELEMENTDATA" "[Ljava/lang/Object;", Cond.fieldLink RJx4a65c 9 "java/util/ArrayList" "elementData" "[Ljava/lang/Object;", Cond.code yJx4a65c_init_da8c8 cJx4a65c_init_da8c8 1 none, Cond.fieldLink RJx4a65c 48 "java/util/ArrayList" "size" "I", Cond.code yJx4a65c_size_8abf5 cJx4a65c_size_8abf5 1 (some .int), Cond.code yJx4a65c_isEmpty_aae02 cJx4a65c_isEmpty_aae02 1 (some .boolean), Cond.fieldLink RJx35411 1 "java/util/ArrayList$Itr" "this$0" "Ljava/util/ArrayList;", Cond.methodLink RJx35411 7 objectInit, Cond.fieldLink RJx35411 13 "java/util/ArrayList$Itr" "lastRet" "I", Cond.sameField RJx4a65c "java/util/AbstractList" "modCount" "I", Cond.fieldLink RJx35411 17 "java/util/ArrayList" "modCount" "I", Cond.fieldLink RJx35411 22 "java/util/ArrayList$Itr" "expectedModCount" "I"]
def TB_1 : List Cond := [Cond.code yJx35411_init_45d68 cJx35411_init_45d68 2 none, Cond.classLink RJx4a65c 267 RJx35411, Cond.instantiable RJx35411 4, Cond.initialized RJx35411, Cond.methodLink RJx4a65c 269 yJx35411_init_45d68, Cond.instanceMethod yJx35411_init_45d68, Cond.code yJx4a65c_iterator_32c93 cJx4a65c_iterator_32c93 1 (some (.object "java/util/Iterator")), Cond.fieldLink RJx35411 25 "java/util/ArrayList$Itr" "cursor" "I", Cond.code yJx35411_hasNext_aae02 cJx35411_hasNext_aae02 1 (some .boolean), Cond.methodLink RJx4a65c 79 Lib.Math.max.name, Cond.static Lib.Math.max.name, Cond.initialized "java/lang/Math", Cond.code Lib.Math.max.name Lib.Math.max.code 2 (some .int), Cond.classLink RJx4a65c 7 "java/lang/Object", Cond.code yJx4a65c_grow_92f84 cJx4a65c_grow_92f84 4 (some (.array (.object "java/lang/Object"))), Cond.methodLink RJx4a65c 69 yJx4a65c_grow_92f84, Cond.instanceMethod yJx4a65c_grow_92f84, Cond.selects RJx4a65c yJx4a65c_grow_92f84 yJx4a65c_grow_92f84, Cond.initialized RJx4a65c, Cond.code yJx4a65c_grow_d5877 cJx4a65c_grow_d5877 1 (some (.array (.object "java/lang/Object"))), Cond.methodLink RJx4a65c 129 yJx4a65c_grow_d5877, Cond.instanceMethod yJx4a65c_grow_d5877, Cond.selects RJx4a65c yJx4a65c_grow_d5877 yJx4a65c_grow_d5877, Cond.code yJx4a65c_add_72be8 cJx4a65c_add_72be8 4 none]
def TB_2 : List Cond := [Cond.fieldLink RJx4a65c 63 "java/util/ArrayList" "modCount" "I", Cond.methodLink RJx4a65c 131 yJx4a65c_add_72be8, Cond.instanceMethod yJx4a65c_add_72be8, Cond.selects RJx4a65c yJx4a65c_add_72be8 yJx4a65c_add_72be8, Cond.code yJx4a65c_add_9ea2d cJx4a65c_add_9ea2d 2 (some .boolean)]
def TBL : List Cond := TB_0 ++ (TB_1 ++ (TB_2 ++ (wsX100 ++ (wsX90 ++ (wsX80 ++ (wsJx354110 ++ (wsJx4a65c0)))))))
theorem tbc_TB_0 : ∀ z ∈ TB_0, z ∈ TBL := fun z h => (List.mem_append_left _ h)
theorem tbc_TB_1 : ∀ z ∈ TB_1, z ∈ TBL := fun z h => (List.mem_append_right _ (List.mem_append_left _ h))
theorem tbc_TB_2 : ∀ z ∈ TB_2, z ∈ TBL := fun z h => (List.mem_append_right _ (List.mem_append_right _ (List.mem_append_left _ h)))
theorem tbc_wsX100 : ∀ z ∈ wsX100, z ∈ TBL := fun z h => (List.mem_append_right _ (List.mem_append_right _ (List.mem_append_right _ (List.mem_append_left _ h))))
theorem tbc_wsX90 : ∀ z ∈ wsX90, z ∈ TBL := fun z h => (List.mem_append_right _ (List.mem_append_right _ (List.mem_append_right _ (List.mem_append_right _ (List.mem_append_left _ h)))))
theorem tbc_wsX80 : ∀ z ∈ wsX80, z ∈ TBL := fun z h => (List.mem_append_right _ (List.mem_append_right _ (List.mem_append_right _ (List.mem_append_right _ (List.mem_append_right _ (List.mem_append_left _ h))))))
theorem tbc_wsJx354110 : ∀ z ∈ wsJx354110, z ∈ TBL := fun z h => (List.mem_append_right _ (List.mem_append_right _ (List.mem_append_right _ (List.mem_append_right _ (List.mem_append_right _ (List.mem_append_right _ (List.mem_append_left _ h)))))))
theorem tbc_wsJx4a65c0 : ∀ z ∈ wsJx4a65c0, z ∈ TBL := fun z h => (List.mem_append_right _ (List.mem_append_right _ (List.mem_append_right _ (List.mem_append_right _ (List.mem_append_right _ (List.mem_append_right _ (List.mem_append_right _ h)))))))
theorem tw_0 : Cond.methodLink RJxa1e45 1 objectInit ∈ TBL := tbc_TB_0 _ (List.mem_of_getElem? (i := 0) (by decide +kernel))
theorem tw_1 : Cond.instanceMethod objectInit ∈ TBL := tbc_TB_0 _ (List.mem_of_getElem? (i := 1) (by decide +kernel))
theorem tw_2 : Cond.code objectInit ⟨#[0xb1]⟩ 1 none ∈ TBL := tbc_TB_0 _ (List.mem_of_getElem? (i := 2) (by decide +kernel))
theorem tw_3 : Cond.code yJxa1e45_init_da8c8 cJxa1e45_init_da8c8 1 none ∈ TBL := tbc_TB_0 _ (List.mem_of_getElem? (i := 3) (by decide +kernel))
theorem tw_4 : Cond.initialized RJxa1e45 ∈ TBL := tbc_TB_0 _ (List.mem_of_getElem? (i := 4) (by decide +kernel))
theorem tw_5 : Cond.methodLink RJxc12de 1 yJxa1e45_init_da8c8 ∈ TBL := tbc_TB_0 _ (List.mem_of_getElem? (i := 5) (by decide +kernel))
theorem tw_6 : Cond.instanceMethod yJxa1e45_init_da8c8 ∈ TBL := tbc_TB_0 _ (List.mem_of_getElem? (i := 6) (by decide +kernel))
theorem tw_7 : Cond.fieldLink RJxc12de 7 "java/util/AbstractList" "modCount" "I" ∈ TBL := tbc_TB_0 _ (List.mem_of_getElem? (i := 7) (by decide +kernel))
theorem tw_8 : Cond.code yJxc12de_init_da8c8 cJxc12de_init_da8c8 1 none ∈ TBL := tbc_TB_0 _ (List.mem_of_getElem? (i := 8) (by decide +kernel))
theorem tw_9 : Cond.initialized RJxc12de ∈ TBL := tbc_TB_0 _ (List.mem_of_getElem? (i := 9) (by decide +kernel))
theorem tw_10 : Cond.methodLink RJx4a65c 1 yJxc12de_init_da8c8 ∈ TBL := tbc_TB_0 _ (List.mem_of_getElem? (i := 10) (by decide +kernel))
theorem tw_11 : Cond.instanceMethod yJxc12de_init_da8c8 ∈ TBL := tbc_TB_0 _ (List.mem_of_getElem? (i := 11) (by decide +kernel))
theorem tw_12 : Cond.fieldLink RJx4a65c 39 RJx4a65c "DEFAULTCAPACITY_EMPTY_ELEMENTDATA" "[Ljava/lang/Object;" ∈ TBL := tbc_TB_0 _ (List.mem_of_getElem? (i := 12) (by decide +kernel))
theorem tw_13 : Cond.fieldLink RJx4a65c 9 "java/util/ArrayList" "elementData" "[Ljava/lang/Object;" ∈ TBL := tbc_TB_0 _ (List.mem_of_getElem? (i := 13) (by decide +kernel))
theorem tw_14 : Cond.code yJx4a65c_init_da8c8 cJx4a65c_init_da8c8 1 none ∈ TBL := tbc_TB_0 _ (List.mem_of_getElem? (i := 14) (by decide +kernel))
theorem tw_15 : Cond.fieldLink RJx4a65c 48 "java/util/ArrayList" "size" "I" ∈ TBL := tbc_TB_0 _ (List.mem_of_getElem? (i := 15) (by decide +kernel))
theorem tw_16 : Cond.code yJx4a65c_size_8abf5 cJx4a65c_size_8abf5 1 (some .int) ∈ TBL := tbc_TB_0 _ (List.mem_of_getElem? (i := 16) (by decide +kernel))
theorem tw_17 : Cond.code yJx4a65c_isEmpty_aae02 cJx4a65c_isEmpty_aae02 1 (some .boolean) ∈ TBL := tbc_TB_0 _ (List.mem_of_getElem? (i := 17) (by decide +kernel))
theorem tw_18 : Cond.fieldLink RJx35411 1 "java/util/ArrayList$Itr" "this$0" "Ljava/util/ArrayList;" ∈ TBL := tbc_TB_0 _ (List.mem_of_getElem? (i := 18) (by decide +kernel))
theorem tw_19 : Cond.methodLink RJx35411 7 objectInit ∈ TBL := tbc_TB_0 _ (List.mem_of_getElem? (i := 19) (by decide +kernel))
theorem tw_20 : Cond.fieldLink RJx35411 13 "java/util/ArrayList$Itr" "lastRet" "I" ∈ TBL := tbc_TB_0 _ (List.mem_of_getElem? (i := 20) (by decide +kernel))
theorem tw_21 : Cond.sameField RJx4a65c "java/util/AbstractList" "modCount" "I" ∈ TBL := tbc_TB_0 _ (List.mem_of_getElem? (i := 21) (by decide +kernel))
theorem tw_22 : Cond.fieldLink RJx35411 17 "java/util/ArrayList" "modCount" "I" ∈ TBL := tbc_TB_0 _ (List.mem_of_getElem? (i := 22) (by decide +kernel))
theorem tw_23 : Cond.fieldLink RJx35411 22 "java/util/ArrayList$Itr" "expectedModCount" "I" ∈ TBL := tbc_TB_0 _ (List.mem_of_getElem? (i := 23) (by decide +kernel))
theorem tw_24 : Cond.code yJx35411_init_45d68 cJx35411_init_45d68 2 none ∈ TBL := tbc_TB_1 _ (List.mem_of_getElem? (i := 0) (by decide +kernel))
theorem tw_25 : Cond.classLink RJx4a65c 267 RJx35411 ∈ TBL := tbc_TB_1 _ (List.mem_of_getElem? (i := 1) (by decide +kernel))
theorem tw_26 : Cond.instantiable RJx35411 4 ∈ TBL := tbc_TB_1 _ (List.mem_of_getElem? (i := 2) (by decide +kernel))
theorem tw_27 : Cond.initialized RJx35411 ∈ TBL := tbc_TB_1 _ (List.mem_of_getElem? (i := 3) (by decide +kernel))
theorem tw_28 : Cond.methodLink RJx4a65c 269 yJx35411_init_45d68 ∈ TBL := tbc_TB_1 _ (List.mem_of_getElem? (i := 4) (by decide +kernel))
theorem tw_29 : Cond.instanceMethod yJx35411_init_45d68 ∈ TBL := tbc_TB_1 _ (List.mem_of_getElem? (i := 5) (by decide +kernel))
theorem tw_30 : Cond.code yJx4a65c_iterator_32c93 cJx4a65c_iterator_32c93 1 (some (.object "java/util/Iterator")) ∈ TBL := tbc_TB_1 _ (List.mem_of_getElem? (i := 6) (by decide +kernel))
theorem tw_31 : Cond.fieldLink RJx35411 25 "java/util/ArrayList$Itr" "cursor" "I" ∈ TBL := tbc_TB_1 _ (List.mem_of_getElem? (i := 7) (by decide +kernel))
theorem tw_32 : Cond.code yJx35411_hasNext_aae02 cJx35411_hasNext_aae02 1 (some .boolean) ∈ TBL := tbc_TB_1 _ (List.mem_of_getElem? (i := 8) (by decide +kernel))
theorem tw_33 : Cond.methodLink RJx4a65c 79 Lib.Math.max.name ∈ TBL := tbc_TB_1 _ (List.mem_of_getElem? (i := 9) (by decide +kernel))
theorem tw_34 : Cond.static Lib.Math.max.name ∈ TBL := tbc_TB_1 _ (List.mem_of_getElem? (i := 10) (by decide +kernel))
theorem tw_35 : Cond.initialized "java/lang/Math" ∈ TBL := tbc_TB_1 _ (List.mem_of_getElem? (i := 11) (by decide +kernel))
theorem tw_36 : Cond.code Lib.Math.max.name Lib.Math.max.code 2 (some .int) ∈ TBL := tbc_TB_1 _ (List.mem_of_getElem? (i := 12) (by decide +kernel))
theorem tw_37 : Cond.classLink RJx4a65c 7 "java/lang/Object" ∈ TBL := tbc_TB_1 _ (List.mem_of_getElem? (i := 13) (by decide +kernel))
theorem tw_38 : Cond.code yJx4a65c_grow_92f84 cJx4a65c_grow_92f84 4 (some (.array (.object "java/lang/Object"))) ∈ TBL := tbc_TB_1 _ (List.mem_of_getElem? (i := 14) (by decide +kernel))
theorem tw_39 : Cond.methodLink RJx4a65c 69 yJx4a65c_grow_92f84 ∈ TBL := tbc_TB_1 _ (List.mem_of_getElem? (i := 15) (by decide +kernel))
theorem tw_40 : Cond.instanceMethod yJx4a65c_grow_92f84 ∈ TBL := tbc_TB_1 _ (List.mem_of_getElem? (i := 16) (by decide +kernel))
theorem tw_41 : Cond.selects RJx4a65c yJx4a65c_grow_92f84 yJx4a65c_grow_92f84 ∈ TBL := tbc_TB_1 _ (List.mem_of_getElem? (i := 17) (by decide +kernel))
theorem tw_42 : Cond.initialized RJx4a65c ∈ TBL := tbc_TB_1 _ (List.mem_of_getElem? (i := 18) (by decide +kernel))
theorem tw_43 : Cond.code yJx4a65c_grow_d5877 cJx4a65c_grow_d5877 1 (some (.array (.object "java/lang/Object"))) ∈ TBL := tbc_TB_1 _ (List.mem_of_getElem? (i := 19) (by decide +kernel))
theorem tw_44 : Cond.methodLink RJx4a65c 129 yJx4a65c_grow_d5877 ∈ TBL := tbc_TB_1 _ (List.mem_of_getElem? (i := 20) (by decide +kernel))
theorem tw_45 : Cond.instanceMethod yJx4a65c_grow_d5877 ∈ TBL := tbc_TB_1 _ (List.mem_of_getElem? (i := 21) (by decide +kernel))
theorem tw_46 : Cond.selects RJx4a65c yJx4a65c_grow_d5877 yJx4a65c_grow_d5877 ∈ TBL := tbc_TB_1 _ (List.mem_of_getElem? (i := 22) (by decide +kernel))
theorem tw_47 : Cond.code yJx4a65c_add_72be8 cJx4a65c_add_72be8 4 none ∈ TBL := tbc_TB_1 _ (List.mem_of_getElem? (i := 23) (by decide +kernel))
theorem tw_48 : Cond.fieldLink RJx4a65c 63 "java/util/ArrayList" "modCount" "I" ∈ TBL := tbc_TB_2 _ (List.mem_of_getElem? (i := 0) (by decide +kernel))
theorem tw_49 : Cond.methodLink RJx4a65c 131 yJx4a65c_add_72be8 ∈ TBL := tbc_TB_2 _ (List.mem_of_getElem? (i := 1) (by decide +kernel))
theorem tw_50 : Cond.instanceMethod yJx4a65c_add_72be8 ∈ TBL := tbc_TB_2 _ (List.mem_of_getElem? (i := 2) (by decide +kernel))
theorem tw_51 : Cond.selects RJx4a65c yJx4a65c_add_72be8 yJx4a65c_add_72be8 ∈ TBL := tbc_TB_2 _ (List.mem_of_getElem? (i := 3) (by decide +kernel))
theorem tw_52 : Cond.code yJx4a65c_add_9ea2d cJx4a65c_add_9ea2d 2 (some .boolean) ∈ TBL := tbc_TB_2 _ (List.mem_of_getElem? (i := 4) (by decide +kernel))
theorem iz_X10 (c0 : Cond) : ∀ z ∈ u_ws RX10 TX10 10, z ∈ c0 :: TBL := fun z h => List.mem_cons_of_mem _ (tbc_wsX100 z h)
theorem iz_X9 (c0 : Cond) : ∀ z ∈ u_ws RX9 TX9 1, z ∈ c0 :: TBL := fun z h => List.mem_cons_of_mem _ (tbc_wsX90 z h)
theorem iz_X8 (c0 : Cond) : ∀ z ∈ u_ws RX8 TX8 4, z ∈ c0 :: TBL := fun z h => List.mem_cons_of_mem _ (tbc_wsX80 z h)
theorem iz_Jx35411 (c0 : Cond) : ∀ z ∈ u_ws RJx35411 TJx35411 4, z ∈ c0 :: TBL := fun z h => List.mem_cons_of_mem _ (tbc_wsJx354110 z h)
theorem iz_Jx4a65c (c0 : Cond) : ∀ z ∈ u_ws RJx4a65c TJx4a65c 3, z ∈ c0 :: TBL := fun z h => List.mem_cons_of_mem _ (tbc_wsJx4a65c0 z h)
theorem tg_TB_0 : TB_0.all goodWord = true := by decide +kernel
theorem tg_TB_1 : TB_1.all goodWord = true := by decide +kernel
theorem tg_TB_2 : TB_2.all goodWord = true := by decide +kernel
theorem tg_wsX100 : wsX100.all goodWord = true := by decide +kernel
theorem tg_wsX90 : wsX90.all goodWord = true := by decide +kernel
theorem tg_wsX80 : wsX80.all goodWord = true := by decide +kernel
theorem tg_wsJx354110 : wsJx354110.all goodWord = true := by decide +kernel
theorem tg_wsJx4a65c0 : wsJx4a65c0.all goodWord = true := by decide +kernel
theorem TBL_good : ∀ z ∈ TBL, (z.onTables && z.keeps) = true ∨ ∃ ty, z = .arrayClass ty := by
  intro z h
  unfold TBL at h
  simp only [List.mem_append] at h
  rcases h with h | h | h | h | h | h | h | h
  · exact good_of_word (List.all_eq_true.mp tg_TB_0 z h)
  · exact good_of_word (List.all_eq_true.mp tg_TB_1 z h)
  · exact good_of_word (List.all_eq_true.mp tg_TB_2 z h)
  · exact good_of_word (List.all_eq_true.mp tg_wsX100 z h)
  · exact good_of_word (List.all_eq_true.mp tg_wsX90 z h)
  · exact good_of_word (List.all_eq_true.mp tg_wsX80 z h)
  · exact good_of_word (List.all_eq_true.mp tg_wsJx354110 z h)
  · exact good_of_word (List.all_eq_true.mp tg_wsJx4a65c0 z h)
theorem gdc {c0 c : Cond} (h : c ∈ TBL) : GoodIn (c0 :: TBL) (c :: TBL) := fun w hw => (List.mem_cons.mp hw).elim (fun e => by rw [e]; exact ⟨List.mem_cons_of_mem _ h, TBL_good _ h⟩) (fun h => ⟨List.mem_cons_of_mem _ h, TBL_good _ h⟩)
def AllT : List Cond → Prop
  | [] => True
  | w :: t => w ∈ TBL ∧ AllT t
theorem gdl {c0 : Cond} (ws : List Cond) (h : AllT ws) : GoodIn (c0 :: TBL) ws := by
  induction ws with
  | nil => intro w hw; cases hw
  | cons a t ih =>
    intro w hw
    rcases List.mem_cons.mp hw with e | e
    · rw [e]
      exact ⟨List.mem_cons_of_mem _ h.1, TBL_good _ h.1⟩
    · exact ih h.2 w e
theorem gi_Jxa1e45_init_da8c8 {c0 : Cond} : GoodIn (c0 :: TBL) (Cond.code yJxa1e45_init_da8c8 cJxa1e45_init_da8c8 1 none :: TBL) := gdc tw_3
theorem gi_Jxc12de_init_da8c8 {c0 : Cond} : GoodIn (c0 :: TBL) (Cond.code yJxc12de_init_da8c8 cJxc12de_init_da8c8 1 none :: TBL) := gdc tw_8
theorem gi_Jx35411_init_45d68 {c0 : Cond} : GoodIn (c0 :: TBL) (Cond.code yJx35411_init_45d68 cJx35411_init_45d68 2 none :: TBL) := gdc tw_24
theorem gz_Jx4a65c_69 {c0 : Cond} : GoodIn (c0 :: TBL) (wsV RJx4a65c 69 RJx4a65c yJx4a65c_grow_92f84 (Cond.code yJx4a65c_grow_92f84 cJx4a65c_grow_92f84 4 (some (.array (.object "java/lang/Object"))) :: TBL)) := goodIn_app (gdl [Cond.methodLink RJx4a65c 69 yJx4a65c_grow_92f84, Cond.instanceMethod yJx4a65c_grow_92f84, Cond.selects RJx4a65c yJx4a65c_grow_92f84 yJx4a65c_grow_92f84, Cond.initialized RJx4a65c] ⟨tw_39, tw_40, tw_41, tw_42, trivial⟩) (gdc tw_38)
theorem gz_Jx4a65c_129 {c0 : Cond} : GoodIn (c0 :: TBL) (wsV RJx4a65c 129 RJx4a65c yJx4a65c_grow_d5877 (Cond.code yJx4a65c_grow_d5877 cJx4a65c_grow_d5877 1 (some (.array (.object "java/lang/Object"))) :: TBL)) := goodIn_app (gdl [Cond.methodLink RJx4a65c 129 yJx4a65c_grow_d5877, Cond.instanceMethod yJx4a65c_grow_d5877, Cond.selects RJx4a65c yJx4a65c_grow_d5877 yJx4a65c_grow_d5877, Cond.initialized RJx4a65c] ⟨tw_44, tw_45, tw_46, tw_42, trivial⟩) (gdc tw_43)
theorem gz_Jx4a65c_131 {c0 : Cond} : GoodIn (c0 :: TBL) (wsV RJx4a65c 131 RJx4a65c yJx4a65c_add_72be8 (Cond.code yJx4a65c_add_72be8 cJx4a65c_add_72be8 4 none :: TBL)) := goodIn_app (gdl [Cond.methodLink RJx4a65c 131 yJx4a65c_add_72be8, Cond.instanceMethod yJx4a65c_add_72be8, Cond.selects RJx4a65c yJx4a65c_add_72be8 yJx4a65c_add_72be8, Cond.initialized RJx4a65c] ⟨tw_49, tw_50, tw_51, tw_42, trivial⟩) (gdc tw_47)
