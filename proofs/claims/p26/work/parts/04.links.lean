theorem nwm_X5_30 : Cond.methodLinkNest "Nestedfare" 30 yX1_init "Nestedfare" ∈ tables_1 := List.mem_of_getElem? (i := 29) (by decide +kernel)
theorem nwm_X1_9 : Cond.methodLinkNest "Nestedfare$Demand" 9 yX3_init "Nestedfare" ∈ tables_1 := List.mem_of_getElem? (i := 35) (by decide +kernel)
theorem nwf_X1_31 : Cond.fieldLinkNest "Nestedfare$Demand" 31 "Nestedfare$Queue" "length" "I" "Nestedfare" ∈ tables_1 := List.mem_of_getElem? (i := 41) (by decide +kernel)
theorem nwm_X5_37 : Cond.methodLinkNest "Nestedfare" 37 yX4_init "Nestedfare" ∈ tables_1 := List.mem_of_getElem? (i := 69) (by decide +kernel)
theorem nwm_X5_102 : Cond.methodLinkNest "Nestedfare" 102 yX2_init "Nestedfare" ∈ tables_1 := List.mem_of_getElem? (i := 257) (by decide +kernel)
theorem nwf_X1_35 : Cond.fieldLinkNest "Nestedfare$Demand" 35 "Nestedfare$Product" "first" "I" "Nestedfare" ∈ tables_1 := List.mem_of_getElem? (i := 262) (by decide +kernel)
theorem nwf_X5_141 : Cond.fieldLinkNest "Nestedfare" 141 "Nestedfare$Product" "first" "I" "Nestedfare" ∈ tables_1 := List.mem_of_getElem? (i := 263) (by decide +kernel)
theorem nwf_X1_40 : Cond.fieldLinkNest "Nestedfare$Demand" 40 "Nestedfare$Product" "last" "I" "Nestedfare" ∈ tables_1 := List.mem_of_getElem? (i := 265) (by decide +kernel)
theorem nwf_X5_144 : Cond.fieldLinkNest "Nestedfare" 144 "Nestedfare$Product" "last" "I" "Nestedfare" ∈ tables_1 := List.mem_of_getElem? (i := 266) (by decide +kernel)
theorem nwf_X1_47 : Cond.fieldLinkNest "Nestedfare$Demand" 47 "Nestedfare$Product" "fare" "I" "Nestedfare" ∈ tables_1 := List.mem_of_getElem? (i := 268) (by decide +kernel)
theorem nwf_X4_45 : Cond.fieldLinkNest "Nestedfare$SeatTable" 45 "Nestedfare$Product" "fare" "I" "Nestedfare" ∈ tables_1 := List.mem_of_getElem? (i := 269) (by decide +kernel)
theorem nwf_X5_138 : Cond.fieldLinkNest "Nestedfare" 138 "Nestedfare$Product" "fare" "I" "Nestedfare" ∈ tables_1 := List.mem_of_getElem? (i := 270) (by decide +kernel)
theorem nwf_X5_117 : Cond.fieldLinkNest "Nestedfare" 117 "Nestedfare$Product" "expectedToday" "I" "Nestedfare" ∈ tables_1 := List.mem_of_getElem? (i := 273) (by decide +kernel)
theorem nwf_X5_124 : Cond.fieldLinkNest "Nestedfare" 124 "Nestedfare$Product" "askedToday" "I" "Nestedfare" ∈ tables_1 := List.mem_of_getElem? (i := 275) (by decide +kernel)
theorem nwf_X5_220 : Cond.fieldLinkNest "Nestedfare" 220 "Nestedfare$Product" "askedBefore" "I" "Nestedfare" ∈ tables_1 := List.mem_of_getElem? (i := 277) (by decide +kernel)
theorem nwm_X5_228 : Cond.methodLinkNest "Nestedfare" 228 yX0_seatsOn "Nestedfare" ∈ tables_1 := List.mem_of_getElem? (i := 329) (by decide +kernel)
theorem nwm_X5_236 : Cond.methodLinkNest "Nestedfare" 236 yX2_covers "Nestedfare" ∈ tables_1 := List.mem_of_getElem? (i := 354) (by decide +kernel)
theorem nwm_X5_239 : Cond.methodLinkNest "Nestedfare" 239 yX2_protectedAgainst "Nestedfare" ∈ tables_1 := List.mem_of_getElem? (i := 358) (by decide +kernel)
theorem nwm_X5_248 : Cond.methodLinkNest "Nestedfare" 248 yX1_clear "Nestedfare" ∈ tables_1 := List.mem_of_getElem? (i := 370) (by decide +kernel)
theorem nwm_X5_249 : Cond.methodLinkNest "Nestedfare" 249 yX1_add "Nestedfare" ∈ tables_1 := List.mem_of_getElem? (i := 374) (by decide +kernel)
theorem nwm_X1_50 : Cond.methodLinkNest "Nestedfare$Demand" 50 yX2_toCome "Nestedfare" ∈ tables_1 := List.mem_of_getElem? (i := 382) (by decide +kernel)
theorem nwm_X1_54 : Cond.methodLinkNest "Nestedfare$Demand" 54 yX3_add "Nestedfare" ∈ tables_1 := List.mem_of_getElem? (i := 389) (by decide +kernel)
theorem nwm_X5_252 : Cond.methodLinkNest "Nestedfare" 252 yX1_mostFor "Nestedfare" ∈ tables_1 := List.mem_of_getElem? (i := 398) (by decide +kernel)
theorem nwm_X1_64 : Cond.methodLinkNest "Nestedfare$Demand" 64 yX3_mostFor "Nestedfare" ∈ tables_1 := List.mem_of_getElem? (i := 405) (by decide +kernel)
theorem nwm_X5_151 : Cond.methodLinkNest "Nestedfare" 151 yX0_init "Nestedfare" ∈ tables_1 := List.mem_of_getElem? (i := 418) (by decide +kernel)
theorem nwf_X5_177 : Cond.fieldLinkNest "Nestedfare" 177 "Nestedfare$Booking" "seats" "I" "Nestedfare" ∈ tables_1 := List.mem_of_getElem? (i := 425) (by decide +kernel)
theorem nwf_X5_245 : Cond.fieldLinkNest "Nestedfare" 245 "Nestedfare$Booking" "price" "I" "Nestedfare" ∈ tables_1 := List.mem_of_getElem? (i := 427) (by decide +kernel)
theorem nwf_X5_171 : Cond.fieldLinkNest "Nestedfare" 171 "Nestedfare$Booking" "cancelled" "Z" "Nestedfare" ∈ tables_1 := List.mem_of_getElem? (i := 429) (by decide +kernel)
theorem nwm_X5_242 : Cond.methodLinkNest "Nestedfare" 242 yX2_learn "Nestedfare" ∈ tables_1 := List.mem_of_getElem? (i := 481) (by decide +kernel)
theorem nwm_X5_208 : Cond.methodLinkNest "Nestedfare" 208 yX4_clear "Nestedfare" ∈ tables_1 := List.mem_of_getElem? (i := 539) (by decide +kernel)
theorem nwm_X5_211 : Cond.methodLinkNest "Nestedfare" 211 yX4_admit "Nestedfare" ∈ tables_1 := List.mem_of_getElem? (i := 546) (by decide +kernel)
theorem nwm_X4_21 : Cond.methodLinkNest "Nestedfare$SeatTable" 21 yX2_toCome "Nestedfare" ∈ tables_1 := List.mem_of_getElem? (i := 550) (by decide +kernel)
theorem nwm_X4_37 : Cond.methodLinkNest "Nestedfare$SeatTable" 37 yX2_covers "Nestedfare" ∈ tables_1 := List.mem_of_getElem? (i := 556) (by decide +kernel)
theorem nwm_X5_215 : Cond.methodLinkNest "Nestedfare" 215 yX4_valueOf "Nestedfare" ∈ tables_1 := List.mem_of_getElem? (i := 564) (by decide +kernel)
theorem hdL_areLegs : yL_areLegs.cls = RL ∧ yL_areLegs.cls ≠ "java/lang/invoke/MethodHandle" ∧ yL_areLegs.cls ≠ "java/lang/invoke/VarHandle" ∧ (parseMethodDescriptor yL_areLegs.desc).map (fun d => d.parameters.length) = some 6 := by decide +kernel
theorem hdL_areProducts : yL_areProducts.cls = RL ∧ yL_areProducts.cls ≠ "java/lang/invoke/MethodHandle" ∧ yL_areProducts.cls ≠ "java/lang/invoke/VarHandle" ∧ (parseMethodDescriptor yL_areProducts.desc).map (fun d => d.parameters.length) = some 3 := by decide +kernel
theorem hdL_asks : yL_asks.cls = RL ∧ yL_asks.cls ≠ "java/lang/invoke/MethodHandle" ∧ yL_asks.cls ≠ "java/lang/invoke/VarHandle" ∧ (parseMethodDescriptor yL_asks.desc).map (fun d => d.parameters.length) = some 5 := by decide +kernel
theorem hdL_authorised : yL_authorised.cls = RL ∧ yL_authorised.cls ≠ "java/lang/invoke/MethodHandle" ∧ yL_authorised.cls ≠ "java/lang/invoke/VarHandle" ∧ (parseMethodDescriptor yL_authorised.desc).map (fun d => d.parameters.length) = some 2 := by decide +kernel
theorem hdL_booked : yL_booked.cls = RL ∧ yL_booked.cls ≠ "java/lang/invoke/MethodHandle" ∧ yL_booked.cls ≠ "java/lang/invoke/VarHandle" ∧ (parseMethodDescriptor yL_booked.desc).map (fun d => d.parameters.length) = some 3 := by decide +kernel
theorem hdL_books : yL_books.cls = RL ∧ yL_books.cls ≠ "java/lang/invoke/MethodHandle" ∧ yL_books.cls ≠ "java/lang/invoke/VarHandle" ∧ (parseMethodDescriptor yL_books.desc).map (fun d => d.parameters.length) = some 6 := by decide +kernel
theorem hdL_does : yL_does.cls = RL ∧ yL_does.cls ≠ "java/lang/invoke/MethodHandle" ∧ yL_does.cls ≠ "java/lang/invoke/VarHandle" ∧ (parseMethodDescriptor yL_does.desc).map (fun d => d.parameters.length) = some 6 := by decide +kernel
theorem hdL_guarded : yL_guarded.cls = RL ∧ yL_guarded.cls ≠ "java/lang/invoke/MethodHandle" ∧ yL_guarded.cls ≠ "java/lang/invoke/VarHandle" ∧ (parseMethodDescriptor yL_guarded.desc).map (fun d => d.parameters.length) = some 5 := by decide +kernel
theorem hdL_isAsked : yL_isAsked.cls = RL ∧ yL_isAsked.cls ≠ "java/lang/invoke/MethodHandle" ∧ yL_isAsked.cls ≠ "java/lang/invoke/VarHandle" ∧ (parseMethodDescriptor yL_isAsked.desc).map (fun d => d.parameters.length) = some 6 := by decide +kernel
theorem hdL_isDone : yL_isDone.cls = RL ∧ yL_isDone.cls ≠ "java/lang/invoke/MethodHandle" ∧ yL_isDone.cls ≠ "java/lang/invoke/VarHandle" ∧ (parseMethodDescriptor yL_isDone.desc).map (fun d => d.parameters.length) = some 7 := by decide +kernel
theorem hdL_isEnd : yL_isEnd.cls = RL ∧ yL_isEnd.cls ≠ "java/lang/invoke/MethodHandle" ∧ yL_isEnd.cls ≠ "java/lang/invoke/VarHandle" ∧ (parseMethodDescriptor yL_isEnd.desc).map (fun d => d.parameters.length) = some 6 := by decide +kernel
theorem hdL_isGroup : yL_isGroup.cls = RL ∧ yL_isGroup.cls ≠ "java/lang/invoke/MethodHandle" ∧ yL_isGroup.cls ≠ "java/lang/invoke/VarHandle" ∧ (parseMethodDescriptor yL_isGroup.desc).map (fun d => d.parameters.length) = some 7 := by decide +kernel
theorem hdL_isProduct : yL_isProduct.cls = RL ∧ yL_isProduct.cls ≠ "java/lang/invoke/MethodHandle" ∧ yL_isProduct.cls ≠ "java/lang/invoke/VarHandle" ∧ (parseMethodDescriptor yL_isProduct.desc).map (fun d => d.parameters.length) = some 7 := by decide +kernel
theorem hdL_part : yL_part.cls = RL ∧ yL_part.cls ≠ "java/lang/invoke/MethodHandle" ∧ yL_part.cls ≠ "java/lang/invoke/VarHandle" ∧ (parseMethodDescriptor yL_part.desc).map (fun d => d.parameters.length) = some 3 := by decide +kernel
theorem hdL_sets : yL_sets.cls = RL ∧ yL_sets.cls ≠ "java/lang/invoke/MethodHandle" ∧ yL_sets.cls ≠ "java/lang/invoke/VarHandle" ∧ (parseMethodDescriptor yL_sets.desc).map (fun d => d.parameters.length) = some 4 := by decide +kernel
theorem kX0_init_6 : Cond.fieldLink RX0 7 "Nestedfare$Booking" "cancelled" "Z" ∈ wsX0_init := List.mem_of_getElem? (i := 4) rfl
theorem kX0_init_11 : Cond.fieldLink RX0 13 "Nestedfare$Booking" "first" "I" ∈ wsX0_init := List.mem_of_getElem? (i := 5) rfl
theorem kX0_init_16 : Cond.fieldLink RX0 17 "Nestedfare$Booking" "last" "I" ∈ wsX0_init := List.mem_of_getElem? (i := 6) rfl
theorem kX0_init_21 : Cond.fieldLink RX0 20 "Nestedfare$Booking" "seats" "I" ∈ wsX0_init := List.mem_of_getElem? (i := 7) rfl
theorem kX0_init_27 : Cond.fieldLink RX0 23 "Nestedfare$Booking" "price" "I" ∈ wsX0_init := List.mem_of_getElem? (i := 8) rfl
theorem fX0_init_0 : ∀ w ∈ wsX00, w ∈ wsX0_init := fun w h => (List.mem_cons_of_mem _ (List.mem_append_right _ h))
theorem hdX0_init : yX0_init.cls = RX0 ∧ yX0_init.cls ≠ "java/lang/invoke/MethodHandle" ∧ yX0_init.cls ≠ "java/lang/invoke/VarHandle" ∧ (parseMethodDescriptor yX0_init.desc).map (fun d => d.parameters.length) = some 4 := by decide +kernel
theorem kX0_seatsOn_1 : Cond.fieldLink RX0 7 "Nestedfare$Booking" "cancelled" "Z" ∈ wsX0_seatsOn := List.mem_of_getElem? (i := 1) rfl
theorem kX0_seatsOn_9 : Cond.fieldLink RX0 13 "Nestedfare$Booking" "first" "I" ∈ wsX0_seatsOn := List.mem_of_getElem? (i := 2) rfl
theorem kX0_seatsOn_17 : Cond.fieldLink RX0 17 "Nestedfare$Booking" "last" "I" ∈ wsX0_seatsOn := List.mem_of_getElem? (i := 3) rfl
theorem kX0_seatsOn_24 : Cond.fieldLink RX0 20 "Nestedfare$Booking" "seats" "I" ∈ wsX0_seatsOn := List.mem_of_getElem? (i := 4) rfl
theorem fX0_seatsOn_0 : ∀ w ∈ wsX00, w ∈ wsX0_seatsOn := fun w h => (List.mem_cons_of_mem _ (List.mem_append_right _ h))
theorem hdX0_seatsOn : yX0_seatsOn.cls = RX0 ∧ yX0_seatsOn.cls ≠ "java/lang/invoke/MethodHandle" ∧ yX0_seatsOn.cls ≠ "java/lang/invoke/VarHandle" ∧ (parseMethodDescriptor yX0_seatsOn.desc).map (fun d => d.parameters.length) = some 1 := by decide +kernel
theorem fX1_add_1 : ∀ w ∈ wsX10, w ∈ wsX1_add := fun w h => (List.mem_cons_of_mem _ (List.mem_append_left _ (List.mem_append_right _ h)))
theorem fX1_add_2 : ∀ w ∈ wsX20, w ∈ wsX1_add := fun w h => (List.mem_cons_of_mem _ (List.mem_append_left _ (List.mem_append_left _ (List.mem_append_right _ h))))
theorem hdX1_add : yX1_add.cls = RX1 ∧ yX1_add.cls ≠ "java/lang/invoke/MethodHandle" ∧ yX1_add.cls ≠ "java/lang/invoke/VarHandle" ∧ (parseMethodDescriptor yX1_add.desc).map (fun d => d.parameters.length) = some 1 := by decide +kernel
theorem kX1_clear_1 : Cond.fieldLink RX1 10 "Nestedfare$Demand" "leg0" "LNestedfare$Queue;" ∈ wsX1_clear := List.mem_of_getElem? (i := 1) rfl
theorem kX1_clear_9 : Cond.fieldLink RX1 16 "Nestedfare$Demand" "leg1" "LNestedfare$Queue;" ∈ wsX1_clear := List.mem_of_getElem? (i := 2) rfl
theorem kX1_clear_17 : Cond.fieldLink RX1 19 "Nestedfare$Demand" "leg2" "LNestedfare$Queue;" ∈ wsX1_clear := List.mem_of_getElem? (i := 3) rfl
theorem kX1_clear_25 : Cond.fieldLink RX1 22 "Nestedfare$Demand" "legs01" "LNestedfare$Queue;" ∈ wsX1_clear := List.mem_of_getElem? (i := 4) rfl
theorem kX1_clear_33 : Cond.fieldLink RX1 25 "Nestedfare$Demand" "legs12" "LNestedfare$Queue;" ∈ wsX1_clear := List.mem_of_getElem? (i := 5) rfl
theorem kX1_clear_41 : Cond.fieldLink RX1 28 "Nestedfare$Demand" "legs012" "LNestedfare$Queue;" ∈ wsX1_clear := List.mem_of_getElem? (i := 6) rfl
theorem fX1_clear_1 : ∀ w ∈ wsX10, w ∈ wsX1_clear := fun w h => (List.mem_cons_of_mem _ (List.mem_append_left _ (List.mem_append_right _ h)))
theorem fX1_clear_3 : ∀ w ∈ wsX30, w ∈ wsX1_clear := fun w h => (List.mem_cons_of_mem _ (List.mem_append_right _ h))
theorem hdX1_clear : yX1_clear.cls = RX1 ∧ yX1_clear.cls ≠ "java/lang/invoke/MethodHandle" ∧ yX1_clear.cls ≠ "java/lang/invoke/VarHandle" ∧ (parseMethodDescriptor yX1_clear.desc).map (fun d => d.parameters.length) = some 0 := by decide +kernel
theorem nclX1_init_5 : Cond.classLink RX1 7 RX3 ∈ wsX1_init := List.mem_of_getElem? (i := 4) rfl
theorem ninX1_init_5 : Cond.instantiable RX3 2 ∈ wsX1_init := List.mem_of_getElem? (i := 5) rfl
theorem niiX1_init_5 : Cond.initialized RX3 ∈ wsX1_init := List.mem_of_getElem? (i := 6) rfl
theorem kX1_init_12 : Cond.fieldLink RX1 10 "Nestedfare$Demand" "leg0" "LNestedfare$Queue;" ∈ wsX1_init := List.mem_of_getElem? (i := 7) rfl
theorem nclX1_init_16 : Cond.classLink RX1 7 RX3 ∈ wsX1_init := List.mem_of_getElem? (i := 4) rfl
theorem ninX1_init_16 : Cond.instantiable RX3 2 ∈ wsX1_init := List.mem_of_getElem? (i := 5) rfl
theorem niiX1_init_16 : Cond.initialized RX3 ∈ wsX1_init := List.mem_of_getElem? (i := 6) rfl
theorem kX1_init_23 : Cond.fieldLink RX1 16 "Nestedfare$Demand" "leg1" "LNestedfare$Queue;" ∈ wsX1_init := List.mem_of_getElem? (i := 8) rfl
theorem nclX1_init_27 : Cond.classLink RX1 7 RX3 ∈ wsX1_init := List.mem_of_getElem? (i := 4) rfl
theorem ninX1_init_27 : Cond.instantiable RX3 2 ∈ wsX1_init := List.mem_of_getElem? (i := 5) rfl
theorem niiX1_init_27 : Cond.initialized RX3 ∈ wsX1_init := List.mem_of_getElem? (i := 6) rfl
theorem kX1_init_34 : Cond.fieldLink RX1 19 "Nestedfare$Demand" "leg2" "LNestedfare$Queue;" ∈ wsX1_init := List.mem_of_getElem? (i := 9) rfl
theorem nclX1_init_38 : Cond.classLink RX1 7 RX3 ∈ wsX1_init := List.mem_of_getElem? (i := 4) rfl
theorem ninX1_init_38 : Cond.instantiable RX3 2 ∈ wsX1_init := List.mem_of_getElem? (i := 5) rfl
theorem niiX1_init_38 : Cond.initialized RX3 ∈ wsX1_init := List.mem_of_getElem? (i := 6) rfl
theorem kX1_init_45 : Cond.fieldLink RX1 22 "Nestedfare$Demand" "legs01" "LNestedfare$Queue;" ∈ wsX1_init := List.mem_of_getElem? (i := 10) rfl
theorem nclX1_init_49 : Cond.classLink RX1 7 RX3 ∈ wsX1_init := List.mem_of_getElem? (i := 4) rfl
theorem ninX1_init_49 : Cond.instantiable RX3 2 ∈ wsX1_init := List.mem_of_getElem? (i := 5) rfl
theorem niiX1_init_49 : Cond.initialized RX3 ∈ wsX1_init := List.mem_of_getElem? (i := 6) rfl
theorem kX1_init_56 : Cond.fieldLink RX1 25 "Nestedfare$Demand" "legs12" "LNestedfare$Queue;" ∈ wsX1_init := List.mem_of_getElem? (i := 11) rfl
theorem nclX1_init_60 : Cond.classLink RX1 7 RX3 ∈ wsX1_init := List.mem_of_getElem? (i := 4) rfl
theorem ninX1_init_60 : Cond.instantiable RX3 2 ∈ wsX1_init := List.mem_of_getElem? (i := 5) rfl
theorem niiX1_init_60 : Cond.initialized RX3 ∈ wsX1_init := List.mem_of_getElem? (i := 6) rfl
theorem kX1_init_67 : Cond.fieldLink RX1 28 "Nestedfare$Demand" "legs012" "LNestedfare$Queue;" ∈ wsX1_init := List.mem_of_getElem? (i := 12) rfl
theorem fX1_init_1 : ∀ w ∈ wsX10, w ∈ wsX1_init := fun w h => (List.mem_cons_of_mem _ (List.mem_append_right _ h))
theorem fX1_init_3 : ∀ w ∈ wsX30, w ∈ wsX1_init := fun w h => (List.mem_cons_of_mem _ (List.mem_append_left _ (List.mem_append_right _ h)))
theorem hdX1_init : yX1_init.cls = RX1 ∧ yX1_init.cls ≠ "java/lang/invoke/MethodHandle" ∧ yX1_init.cls ≠ "java/lang/invoke/VarHandle" ∧ (parseMethodDescriptor yX1_init.desc).map (fun d => d.parameters.length) = some 0 := by decide +kernel
theorem kX1_mostBehind_3 : Cond.fieldLink RX1 25 "Nestedfare$Demand" "legs12" "LNestedfare$Queue;" ∈ wsX1_mostBehind := List.mem_of_getElem? (i := 1) rfl
theorem mlX1_mostBehind_11 : Cond.methodLink RX1 58 Lib.Math.min.name ∈ wsX1_mostBehind := List.mem_of_getElem? (i := 2) rfl
theorem msX1_mostBehind_11 : Cond.static Lib.Math.min.name ∈ wsX1_mostBehind := List.mem_of_getElem? (i := 3) rfl
theorem miX1_mostBehind_11 : Cond.initialized "java/lang/Math" ∈ wsX1_mostBehind := List.mem_of_getElem? (i := 4) rfl
theorem mcX1_mostBehind_11 : Cond.code Lib.Math.min.name Lib.Math.min.code 2 (some .int) ∈ wsX1_mostBehind := List.mem_of_getElem? (i := 5) rfl
theorem mlX1_mostBehind_14 : Cond.methodLink RX1 58 Lib.Math.min.name ∈ wsX1_mostBehind := List.mem_of_getElem? (i := 2) rfl
theorem msX1_mostBehind_14 : Cond.static Lib.Math.min.name ∈ wsX1_mostBehind := List.mem_of_getElem? (i := 3) rfl
theorem miX1_mostBehind_14 : Cond.initialized "java/lang/Math" ∈ wsX1_mostBehind := List.mem_of_getElem? (i := 4) rfl
theorem mcX1_mostBehind_14 : Cond.code Lib.Math.min.name Lib.Math.min.code 2 (some .int) ∈ wsX1_mostBehind := List.mem_of_getElem? (i := 5) rfl
theorem kX1_mostBehind_31 : Cond.fieldLink RX1 25 "Nestedfare$Demand" "legs12" "LNestedfare$Queue;" ∈ wsX1_mostBehind := List.mem_of_getElem? (i := 1) rfl
theorem kX1_mostBehind_40 : Cond.fieldLink RX1 16 "Nestedfare$Demand" "leg1" "LNestedfare$Queue;" ∈ wsX1_mostBehind := List.mem_of_getElem? (i := 6) rfl
theorem kX1_mostBehind_52 : Cond.fieldLink RX1 19 "Nestedfare$Demand" "leg2" "LNestedfare$Queue;" ∈ wsX1_mostBehind := List.mem_of_getElem? (i := 7) rfl
theorem mlX1_mostBehind_63 : Cond.methodLink RX1 72 Lib.Math.max.name ∈ wsX1_mostBehind := List.mem_of_getElem? (i := 8) rfl
theorem msX1_mostBehind_63 : Cond.static Lib.Math.max.name ∈ wsX1_mostBehind := List.mem_of_getElem? (i := 9) rfl
theorem miX1_mostBehind_63 : Cond.initialized "java/lang/Math" ∈ wsX1_mostBehind := List.mem_of_getElem? (i := 4) rfl
theorem mcX1_mostBehind_63 : Cond.code Lib.Math.max.name Lib.Math.max.code 2 (some .int) ∈ wsX1_mostBehind := List.mem_of_getElem? (i := 10) rfl
theorem fX1_mostBehind_1 : ∀ w ∈ wsX10, w ∈ wsX1_mostBehind := fun w h => (List.mem_cons_of_mem _ (List.mem_append_left _ (List.mem_append_right _ h)))
theorem fX1_mostBehind_3 : ∀ w ∈ wsX30, w ∈ wsX1_mostBehind := fun w h => (List.mem_cons_of_mem _ (List.mem_append_right _ h))
theorem hdX1_mostBehind : yX1_mostBehind.cls = RX1 ∧ yX1_mostBehind.cls ≠ "java/lang/invoke/MethodHandle" ∧ yX1_mostBehind.cls ≠ "java/lang/invoke/VarHandle" ∧ (parseMethodDescriptor yX1_mostBehind.desc).map (fun d => d.parameters.length) = some 2 := by decide +kernel
theorem kX1_mostFor_4 : Cond.fieldLink RX1 28 "Nestedfare$Demand" "legs012" "LNestedfare$Queue;" ∈ wsX1_mostFor := List.mem_of_getElem? (i := 1) rfl
theorem mlX1_mostFor_13 : Cond.methodLink RX1 58 Lib.Math.min.name ∈ wsX1_mostFor := List.mem_of_getElem? (i := 2) rfl
theorem msX1_mostFor_13 : Cond.static Lib.Math.min.name ∈ wsX1_mostFor := List.mem_of_getElem? (i := 3) rfl
theorem miX1_mostFor_13 : Cond.initialized "java/lang/Math" ∈ wsX1_mostFor := List.mem_of_getElem? (i := 4) rfl
theorem mcX1_mostFor_13 : Cond.code Lib.Math.min.name Lib.Math.min.code 2 (some .int) ∈ wsX1_mostFor := List.mem_of_getElem? (i := 5) rfl
theorem mlX1_mostFor_16 : Cond.methodLink RX1 58 Lib.Math.min.name ∈ wsX1_mostFor := List.mem_of_getElem? (i := 2) rfl
theorem msX1_mostFor_16 : Cond.static Lib.Math.min.name ∈ wsX1_mostFor := List.mem_of_getElem? (i := 3) rfl
theorem miX1_mostFor_16 : Cond.initialized "java/lang/Math" ∈ wsX1_mostFor := List.mem_of_getElem? (i := 4) rfl
theorem mcX1_mostFor_16 : Cond.code Lib.Math.min.name Lib.Math.min.code 2 (some .int) ∈ wsX1_mostFor := List.mem_of_getElem? (i := 5) rfl
theorem mlX1_mostFor_19 : Cond.methodLink RX1 58 Lib.Math.min.name ∈ wsX1_mostFor := List.mem_of_getElem? (i := 2) rfl
theorem msX1_mostFor_19 : Cond.static Lib.Math.min.name ∈ wsX1_mostFor := List.mem_of_getElem? (i := 3) rfl
theorem miX1_mostFor_19 : Cond.initialized "java/lang/Math" ∈ wsX1_mostFor := List.mem_of_getElem? (i := 4) rfl
theorem mcX1_mostFor_19 : Cond.code Lib.Math.min.name Lib.Math.min.code 2 (some .int) ∈ wsX1_mostFor := List.mem_of_getElem? (i := 5) rfl
theorem kX1_mostFor_37 : Cond.fieldLink RX1 28 "Nestedfare$Demand" "legs012" "LNestedfare$Queue;" ∈ wsX1_mostFor := List.mem_of_getElem? (i := 1) rfl
theorem mlX1_mostFor_62 : Cond.methodLink RX1 72 Lib.Math.max.name ∈ wsX1_mostFor := List.mem_of_getElem? (i := 6) rfl
theorem msX1_mostFor_62 : Cond.static Lib.Math.max.name ∈ wsX1_mostFor := List.mem_of_getElem? (i := 7) rfl
theorem miX1_mostFor_62 : Cond.initialized "java/lang/Math" ∈ wsX1_mostFor := List.mem_of_getElem? (i := 4) rfl
theorem mcX1_mostFor_62 : Cond.code Lib.Math.max.name Lib.Math.max.code 2 (some .int) ∈ wsX1_mostFor := List.mem_of_getElem? (i := 8) rfl
theorem fX1_mostFor_1 : ∀ w ∈ wsX10, w ∈ wsX1_mostFor := fun w h => (List.mem_cons_of_mem _ (List.mem_append_left _ (List.mem_append_right _ h)))
theorem fX1_mostFor_3 : ∀ w ∈ wsX30, w ∈ wsX1_mostFor := fun w h => (List.mem_cons_of_mem _ (List.mem_append_right _ h))
theorem hdX1_mostFor : yX1_mostFor.cls = RX1 ∧ yX1_mostFor.cls ≠ "java/lang/invoke/MethodHandle" ∧ yX1_mostFor.cls ≠ "java/lang/invoke/VarHandle" ∧ (parseMethodDescriptor yX1_mostFor.desc).map (fun d => d.parameters.length) = some 3 := by decide +kernel
theorem kX1_mostOfShorter_4 : Cond.fieldLink RX1 22 "Nestedfare$Demand" "legs01" "LNestedfare$Queue;" ∈ wsX1_mostOfShorter := List.mem_of_getElem? (i := 1) rfl
theorem mlX1_mostOfShorter_12 : Cond.methodLink RX1 58 Lib.Math.min.name ∈ wsX1_mostOfShorter := List.mem_of_getElem? (i := 2) rfl
theorem msX1_mostOfShorter_12 : Cond.static Lib.Math.min.name ∈ wsX1_mostOfShorter := List.mem_of_getElem? (i := 3) rfl
theorem miX1_mostOfShorter_12 : Cond.initialized "java/lang/Math" ∈ wsX1_mostOfShorter := List.mem_of_getElem? (i := 4) rfl
theorem mcX1_mostOfShorter_12 : Cond.code Lib.Math.min.name Lib.Math.min.code 2 (some .int) ∈ wsX1_mostOfShorter := List.mem_of_getElem? (i := 5) rfl
theorem mlX1_mostOfShorter_15 : Cond.methodLink RX1 58 Lib.Math.min.name ∈ wsX1_mostOfShorter := List.mem_of_getElem? (i := 2) rfl
theorem msX1_mostOfShorter_15 : Cond.static Lib.Math.min.name ∈ wsX1_mostOfShorter := List.mem_of_getElem? (i := 3) rfl
theorem miX1_mostOfShorter_15 : Cond.initialized "java/lang/Math" ∈ wsX1_mostOfShorter := List.mem_of_getElem? (i := 4) rfl
theorem mcX1_mostOfShorter_15 : Cond.code Lib.Math.min.name Lib.Math.min.code 2 (some .int) ∈ wsX1_mostOfShorter := List.mem_of_getElem? (i := 5) rfl
theorem kX1_mostOfShorter_31 : Cond.fieldLink RX1 22 "Nestedfare$Demand" "legs01" "LNestedfare$Queue;" ∈ wsX1_mostOfShorter := List.mem_of_getElem? (i := 1) rfl
theorem kX1_mostOfShorter_40 : Cond.fieldLink RX1 10 "Nestedfare$Demand" "leg0" "LNestedfare$Queue;" ∈ wsX1_mostOfShorter := List.mem_of_getElem? (i := 6) rfl
theorem mlX1_mostOfShorter_67 : Cond.methodLink RX1 72 Lib.Math.max.name ∈ wsX1_mostOfShorter := List.mem_of_getElem? (i := 7) rfl
theorem msX1_mostOfShorter_67 : Cond.static Lib.Math.max.name ∈ wsX1_mostOfShorter := List.mem_of_getElem? (i := 8) rfl
theorem miX1_mostOfShorter_67 : Cond.initialized "java/lang/Math" ∈ wsX1_mostOfShorter := List.mem_of_getElem? (i := 4) rfl
theorem mcX1_mostOfShorter_67 : Cond.code Lib.Math.max.name Lib.Math.max.code 2 (some .int) ∈ wsX1_mostOfShorter := List.mem_of_getElem? (i := 9) rfl
theorem fX1_mostOfShorter_1 : ∀ w ∈ wsX10, w ∈ wsX1_mostOfShorter := fun w h => (List.mem_cons_of_mem _ (List.mem_append_left _ (List.mem_append_right _ h)))
theorem fX1_mostOfShorter_3 : ∀ w ∈ wsX30, w ∈ wsX1_mostOfShorter := fun w h => (List.mem_cons_of_mem _ (List.mem_append_right _ h))
theorem hdX1_mostOfShorter : yX1_mostOfShorter.cls = RX1 ∧ yX1_mostOfShorter.cls ≠ "java/lang/invoke/MethodHandle" ∧ yX1_mostOfShorter.cls ≠ "java/lang/invoke/VarHandle" ∧ (parseMethodDescriptor yX1_mostOfShorter.desc).map (fun d => d.parameters.length) = some 3 := by decide +kernel
theorem kX1_queueOf_9 : Cond.fieldLink RX1 10 "Nestedfare$Demand" "leg0" "LNestedfare$Queue;" ∈ wsX1_queueOf := List.mem_of_getElem? (i := 1) rfl
theorem kX1_queueOf_21 : Cond.fieldLink RX1 22 "Nestedfare$Demand" "legs01" "LNestedfare$Queue;" ∈ wsX1_queueOf := List.mem_of_getElem? (i := 2) rfl
theorem kX1_queueOf_28 : Cond.fieldLink RX1 28 "Nestedfare$Demand" "legs012" "LNestedfare$Queue;" ∈ wsX1_queueOf := List.mem_of_getElem? (i := 3) rfl
theorem kX1_queueOf_43 : Cond.fieldLink RX1 16 "Nestedfare$Demand" "leg1" "LNestedfare$Queue;" ∈ wsX1_queueOf := List.mem_of_getElem? (i := 4) rfl
theorem kX1_queueOf_50 : Cond.fieldLink RX1 25 "Nestedfare$Demand" "legs12" "LNestedfare$Queue;" ∈ wsX1_queueOf := List.mem_of_getElem? (i := 5) rfl
theorem kX1_queueOf_55 : Cond.fieldLink RX1 19 "Nestedfare$Demand" "leg2" "LNestedfare$Queue;" ∈ wsX1_queueOf := List.mem_of_getElem? (i := 6) rfl
theorem fX1_queueOf_1 : ∀ w ∈ wsX10, w ∈ wsX1_queueOf := fun w h => (List.mem_cons_of_mem _ (List.mem_append_right _ h))
theorem hdX1_queueOf : yX1_queueOf.cls = RX1 ∧ yX1_queueOf.cls ≠ "java/lang/invoke/MethodHandle" ∧ yX1_queueOf.cls ≠ "java/lang/invoke/VarHandle" ∧ (parseMethodDescriptor yX1_queueOf.desc).map (fun d => d.parameters.length) = some 2 := by decide +kernel
theorem kX2_covers_2 : Cond.fieldLink RX2 25 "Nestedfare$Product" "first" "I" ∈ wsX2_covers := List.mem_of_getElem? (i := 1) rfl
theorem kX2_covers_10 : Cond.fieldLink RX2 28 "Nestedfare$Product" "last" "I" ∈ wsX2_covers := List.mem_of_getElem? (i := 2) rfl
theorem fX2_covers_2 : ∀ w ∈ wsX20, w ∈ wsX2_covers := fun w h => (List.mem_cons_of_mem _ (List.mem_append_right _ h))
theorem hdX2_covers : yX2_covers.cls = RX2 ∧ yX2_covers.cls ≠ "java/lang/invoke/MethodHandle" ∧ yX2_covers.cls ≠ "java/lang/invoke/VarHandle" ∧ (parseMethodDescriptor yX2_covers.desc).map (fun d => d.parameters.length) = some 1 := by decide +kernel
theorem kX2_init_9 : Cond.fieldLink RX2 9 "Nestedfare$Product" "daysByAsked" "[I" ∈ wsX2_init := List.mem_of_getElem? (i := 5) rfl
theorem kX2_init_14 : Cond.fieldLink RX2 15 "Nestedfare$Product" "expectedToday" "I" ∈ wsX2_init := List.mem_of_getElem? (i := 6) rfl
theorem kX2_init_19 : Cond.fieldLink RX2 19 "Nestedfare$Product" "askedToday" "I" ∈ wsX2_init := List.mem_of_getElem? (i := 7) rfl
theorem kX2_init_24 : Cond.fieldLink RX2 22 "Nestedfare$Product" "askedBefore" "I" ∈ wsX2_init := List.mem_of_getElem? (i := 8) rfl
theorem kX2_init_29 : Cond.fieldLink RX2 25 "Nestedfare$Product" "first" "I" ∈ wsX2_init := List.mem_of_getElem? (i := 9) rfl
theorem kX2_init_34 : Cond.fieldLink RX2 28 "Nestedfare$Product" "last" "I" ∈ wsX2_init := List.mem_of_getElem? (i := 10) rfl
theorem kX2_init_39 : Cond.fieldLink RX2 31 "Nestedfare$Product" "fare" "I" ∈ wsX2_init := List.mem_of_getElem? (i := 11) rfl
theorem kX2_init_43 : Cond.fieldLink RX2 9 "Nestedfare$Product" "daysByAsked" "[I" ∈ wsX2_init := List.mem_of_getElem? (i := 5) rfl
theorem fX2_init_2 : ∀ w ∈ wsX20, w ∈ wsX2_init := fun w h => (List.mem_cons_of_mem _ (List.mem_append_right _ h))
theorem hdX2_init : yX2_init.cls = RX2 ∧ yX2_init.cls ≠ "java/lang/invoke/MethodHandle" ∧ yX2_init.cls ≠ "java/lang/invoke/VarHandle" ∧ (parseMethodDescriptor yX2_init.desc).map (fun d => d.parameters.length) = some 4 := by decide +kernel
theorem kX2_learn_1 : Cond.fieldLink RX2 19 "Nestedfare$Product" "askedToday" "I" ∈ wsX2_learn := List.mem_of_getElem? (i := 1) rfl
theorem mlX2_learn_6 : Cond.methodLink RX2 40 Lib.Math.min.name ∈ wsX2_learn := List.mem_of_getElem? (i := 2) rfl
theorem msX2_learn_6 : Cond.static Lib.Math.min.name ∈ wsX2_learn := List.mem_of_getElem? (i := 3) rfl
theorem miX2_learn_6 : Cond.initialized "java/lang/Math" ∈ wsX2_learn := List.mem_of_getElem? (i := 4) rfl
theorem mcX2_learn_6 : Cond.code Lib.Math.min.name Lib.Math.min.code 2 (some .int) ∈ wsX2_learn := List.mem_of_getElem? (i := 5) rfl
theorem kX2_learn_16 : Cond.fieldLink RX2 9 "Nestedfare$Product" "daysByAsked" "[I" ∈ wsX2_learn := List.mem_of_getElem? (i := 6) rfl
theorem kX2_learn_24 : Cond.fieldLink RX2 9 "Nestedfare$Product" "daysByAsked" "[I" ∈ wsX2_learn := List.mem_of_getElem? (i := 6) rfl
theorem kX2_learn_35 : Cond.fieldLink RX2 22 "Nestedfare$Product" "askedBefore" "I" ∈ wsX2_learn := List.mem_of_getElem? (i := 7) rfl
theorem kX2_learn_39 : Cond.fieldLink RX2 19 "Nestedfare$Product" "askedToday" "I" ∈ wsX2_learn := List.mem_of_getElem? (i := 1) rfl
theorem kX2_learn_43 : Cond.fieldLink RX2 22 "Nestedfare$Product" "askedBefore" "I" ∈ wsX2_learn := List.mem_of_getElem? (i := 7) rfl
theorem kX2_learn_48 : Cond.fieldLink RX2 19 "Nestedfare$Product" "askedToday" "I" ∈ wsX2_learn := List.mem_of_getElem? (i := 1) rfl
theorem kX2_learn_57 : Cond.fieldLink RX2 22 "Nestedfare$Product" "askedBefore" "I" ∈ wsX2_learn := List.mem_of_getElem? (i := 7) rfl
theorem kX2_learn_62 : Cond.fieldLink RX2 15 "Nestedfare$Product" "expectedToday" "I" ∈ wsX2_learn := List.mem_of_getElem? (i := 8) rfl
theorem fX2_learn_2 : ∀ w ∈ wsX20, w ∈ wsX2_learn := fun w h => (List.mem_cons_of_mem _ (List.mem_append_right _ h))
theorem hdX2_learn : yX2_learn.cls = RX2 ∧ yX2_learn.cls ≠ "java/lang/invoke/MethodHandle" ∧ yX2_learn.cls ≠ "java/lang/invoke/VarHandle" ∧ (parseMethodDescriptor yX2_learn.desc).map (fun d => d.parameters.length) = some 1 := by decide +kernel
theorem kX2_protectedAgainst_16 : Cond.fieldLink RX2 9 "Nestedfare$Product" "daysByAsked" "[I" ∈ wsX2_protectedAgainst := List.mem_of_getElem? (i := 1) rfl
theorem kX2_protectedAgainst_32 : Cond.fieldLink RX2 9 "Nestedfare$Product" "daysByAsked" "[I" ∈ wsX2_protectedAgainst := List.mem_of_getElem? (i := 1) rfl
theorem kX2_protectedAgainst_43 : Cond.fieldLink RX2 31 "Nestedfare$Product" "fare" "I" ∈ wsX2_protectedAgainst := List.mem_of_getElem? (i := 2) rfl
theorem fX2_protectedAgainst_2 : ∀ w ∈ wsX20, w ∈ wsX2_protectedAgainst := fun w h => (List.mem_cons_of_mem _ (List.mem_append_right _ h))
theorem hdX2_protectedAgainst : yX2_protectedAgainst.cls = RX2 ∧ yX2_protectedAgainst.cls ≠ "java/lang/invoke/MethodHandle" ∧ yX2_protectedAgainst.cls ≠ "java/lang/invoke/VarHandle" ∧ (parseMethodDescriptor yX2_protectedAgainst.desc).map (fun d => d.parameters.length) = some 2 := by decide +kernel
theorem kX2_toCome_2 : Cond.fieldLink RX2 15 "Nestedfare$Product" "expectedToday" "I" ∈ wsX2_toCome := List.mem_of_getElem? (i := 1) rfl
theorem kX2_toCome_6 : Cond.fieldLink RX2 19 "Nestedfare$Product" "askedToday" "I" ∈ wsX2_toCome := List.mem_of_getElem? (i := 2) rfl
theorem mlX2_toCome_10 : Cond.methodLink RX2 34 Lib.Math.max.name ∈ wsX2_toCome := List.mem_of_getElem? (i := 3) rfl
theorem msX2_toCome_10 : Cond.static Lib.Math.max.name ∈ wsX2_toCome := List.mem_of_getElem? (i := 4) rfl
theorem miX2_toCome_10 : Cond.initialized "java/lang/Math" ∈ wsX2_toCome := List.mem_of_getElem? (i := 5) rfl
theorem mcX2_toCome_10 : Cond.code Lib.Math.max.name Lib.Math.max.code 2 (some .int) ∈ wsX2_toCome := List.mem_of_getElem? (i := 6) rfl
theorem fX2_toCome_2 : ∀ w ∈ wsX20, w ∈ wsX2_toCome := fun w h => (List.mem_cons_of_mem _ (List.mem_append_right _ h))
theorem hdX2_toCome : yX2_toCome.cls = RX2 ∧ yX2_toCome.cls ≠ "java/lang/invoke/MethodHandle" ∧ yX2_toCome.cls ≠ "java/lang/invoke/VarHandle" ∧ (parseMethodDescriptor yX2_toCome.desc).map (fun d => d.parameters.length) = some 0 := by decide +kernel
theorem kX3_add_8 : Cond.fieldLink RX3 15 "Nestedfare$Queue" "length" "I" ∈ wsX3_add := List.mem_of_getElem? (i := 1) rfl
theorem kX3_add_15 : Cond.fieldLink RX3 15 "Nestedfare$Queue" "length" "I" ∈ wsX3_add := List.mem_of_getElem? (i := 1) rfl
theorem kX3_add_21 : Cond.fieldLink RX3 9 "Nestedfare$Queue" "sums" "[I" ∈ wsX3_add := List.mem_of_getElem? (i := 2) rfl
theorem kX3_add_29 : Cond.fieldLink RX3 9 "Nestedfare$Queue" "sums" "[I" ∈ wsX3_add := List.mem_of_getElem? (i := 2) rfl
theorem kX3_add_33 : Cond.fieldLink RX3 15 "Nestedfare$Queue" "length" "I" ∈ wsX3_add := List.mem_of_getElem? (i := 1) rfl
theorem kX3_add_39 : Cond.fieldLink RX3 9 "Nestedfare$Queue" "sums" "[I" ∈ wsX3_add := List.mem_of_getElem? (i := 2) rfl
theorem kX3_add_43 : Cond.fieldLink RX3 15 "Nestedfare$Queue" "length" "I" ∈ wsX3_add := List.mem_of_getElem? (i := 1) rfl
theorem kX3_add_52 : Cond.fieldLink RX3 15 "Nestedfare$Queue" "length" "I" ∈ wsX3_add := List.mem_of_getElem? (i := 1) rfl
theorem kX3_add_57 : Cond.fieldLink RX3 15 "Nestedfare$Queue" "length" "I" ∈ wsX3_add := List.mem_of_getElem? (i := 1) rfl
theorem fX3_add_3 : ∀ w ∈ wsX30, w ∈ wsX3_add := fun w h => (List.mem_cons_of_mem _ (List.mem_append_right _ h))
theorem hdX3_add : yX3_add.cls = RX3 ∧ yX3_add.cls ≠ "java/lang/invoke/MethodHandle" ∧ yX3_add.cls ≠ "java/lang/invoke/VarHandle" ∧ (parseMethodDescriptor yX3_add.desc).map (fun d => d.parameters.length) = some 2 := by decide +kernel
theorem kX3_init_9 : Cond.fieldLink RX3 9 "Nestedfare$Queue" "sums" "[I" ∈ wsX3_init := List.mem_of_getElem? (i := 5) rfl
theorem kX3_init_14 : Cond.fieldLink RX3 15 "Nestedfare$Queue" "length" "I" ∈ wsX3_init := List.mem_of_getElem? (i := 6) rfl
theorem fX3_init_3 : ∀ w ∈ wsX30, w ∈ wsX3_init := fun w h => (List.mem_cons_of_mem _ (List.mem_append_right _ h))
theorem hdX3_init : yX3_init.cls = RX3 ∧ yX3_init.cls ≠ "java/lang/invoke/MethodHandle" ∧ yX3_init.cls ≠ "java/lang/invoke/VarHandle" ∧ (parseMethodDescriptor yX3_init.desc).map (fun d => d.parameters.length) = some 0 := by decide +kernel
theorem kX3_mostFor_2 : Cond.fieldLink RX3 15 "Nestedfare$Queue" "length" "I" ∈ wsX3_mostFor := List.mem_of_getElem? (i := 1) rfl
theorem kX3_mostFor_13 : Cond.fieldLink RX3 15 "Nestedfare$Queue" "length" "I" ∈ wsX3_mostFor := List.mem_of_getElem? (i := 1) rfl
theorem kX3_mostFor_23 : Cond.fieldLink RX3 9 "Nestedfare$Queue" "sums" "[I" ∈ wsX3_mostFor := List.mem_of_getElem? (i := 2) rfl
theorem kX3_mostFor_31 : Cond.fieldLink RX3 9 "Nestedfare$Queue" "sums" "[I" ∈ wsX3_mostFor := List.mem_of_getElem? (i := 2) rfl
theorem fX3_mostFor_3 : ∀ w ∈ wsX30, w ∈ wsX3_mostFor := fun w h => (List.mem_cons_of_mem _ (List.mem_append_right _ h))
theorem hdX3_mostFor : yX3_mostFor.cls = RX3 ∧ yX3_mostFor.cls ≠ "java/lang/invoke/MethodHandle" ∧ yX3_mostFor.cls ≠ "java/lang/invoke/VarHandle" ∧ (parseMethodDescriptor yX3_mostFor.desc).map (fun d => d.parameters.length) = some 1 := by decide +kernel
theorem mlX4_admit_6 : Cond.methodLink RX4 27 Lib.Math.min.name ∈ wsX4_admit := List.mem_of_getElem? (i := 1) rfl
theorem msX4_admit_6 : Cond.static Lib.Math.min.name ∈ wsX4_admit := List.mem_of_getElem? (i := 2) rfl
theorem miX4_admit_6 : Cond.initialized "java/lang/Math" ∈ wsX4_admit := List.mem_of_getElem? (i := 3) rfl
theorem mcX4_admit_6 : Cond.code Lib.Math.min.name Lib.Math.min.code 2 (some .int) ∈ wsX4_admit := List.mem_of_getElem? (i := 4) rfl
theorem fX4_admit_4 : ∀ w ∈ wsX40, w ∈ wsX4_admit := fun w h => (List.mem_cons_of_mem _ (List.mem_append_right _ h))
theorem hdX4_admit : yX4_admit.cls = RX4 ∧ yX4_admit.cls ≠ "java/lang/invoke/MethodHandle" ∧ yX4_admit.cls ≠ "java/lang/invoke/VarHandle" ∧ (parseMethodDescriptor yX4_admit.desc).map (fun d => d.parameters.length) = some 4 := by decide +kernel
theorem fX4_admitOne_2 : ∀ w ∈ wsX20, w ∈ wsX4_admitOne := fun w h => (List.mem_cons_of_mem _ (List.mem_append_left _ (List.mem_append_right _ h)))
theorem fX4_admitOne_4 : ∀ w ∈ wsX40, w ∈ wsX4_admitOne := fun w h => (List.mem_cons_of_mem _ (List.mem_append_right _ h))
theorem hdX4_admitOne : yX4_admitOne.cls = RX4 ∧ yX4_admitOne.cls ≠ "java/lang/invoke/MethodHandle" ∧ yX4_admitOne.cls ≠ "java/lang/invoke/VarHandle" ∧ (parseMethodDescriptor yX4_admitOne.desc).map (fun d => d.parameters.length) = some 4 := by decide +kernel
theorem hdX4_cellOf : yX4_cellOf.cls = RX4 ∧ yX4_cellOf.cls ≠ "java/lang/invoke/MethodHandle" ∧ yX4_cellOf.cls ≠ "java/lang/invoke/VarHandle" ∧ (parseMethodDescriptor yX4_cellOf.desc).map (fun d => d.parameters.length) = some 3 := by decide +kernel
theorem kX4_clear_1 : Cond.fieldLink RX4 11 "Nestedfare$SeatTable" "values" "[I" ∈ wsX4_clear := List.mem_of_getElem? (i := 1) rfl
theorem fX4_clear_4 : ∀ w ∈ wsX40, w ∈ wsX4_clear := fun w h => (List.mem_cons_of_mem _ (List.mem_append_right _ h))
theorem hdX4_clear : yX4_clear.cls = RX4 ∧ yX4_clear.cls ≠ "java/lang/invoke/MethodHandle" ∧ yX4_clear.cls ≠ "java/lang/invoke/VarHandle" ∧ (parseMethodDescriptor yX4_clear.desc).map (fun d => d.parameters.length) = some 0 := by decide +kernel
theorem kX4_init_10 : Cond.fieldLink RX4 11 "Nestedfare$SeatTable" "values" "[I" ∈ wsX4_init := List.mem_of_getElem? (i := 5) rfl
theorem fX4_init_4 : ∀ w ∈ wsX40, w ∈ wsX4_init := fun w h => (List.mem_cons_of_mem _ (List.mem_append_right _ h))
theorem hdX4_init : yX4_init.cls = RX4 ∧ yX4_init.cls ≠ "java/lang/invoke/MethodHandle" ∧ yX4_init.cls ≠ "java/lang/invoke/VarHandle" ∧ (parseMethodDescriptor yX4_init.desc).map (fun d => d.parameters.length) = some 0 := by decide +kernel
theorem kX4_raiseRow_12 : Cond.fieldLink RX4 11 "Nestedfare$SeatTable" "values" "[I" ∈ wsX4_raiseRow := List.mem_of_getElem? (i := 1) rfl
theorem kX4_raiseRow_30 : Cond.fieldLink RX4 11 "Nestedfare$SeatTable" "values" "[I" ∈ wsX4_raiseRow := List.mem_of_getElem? (i := 1) rfl
theorem kX4_raiseRow_46 : Cond.fieldLink RX4 11 "Nestedfare$SeatTable" "values" "[I" ∈ wsX4_raiseRow := List.mem_of_getElem? (i := 1) rfl
theorem kX4_raiseRow_56 : Cond.fieldLink RX4 11 "Nestedfare$SeatTable" "values" "[I" ∈ wsX4_raiseRow := List.mem_of_getElem? (i := 1) rfl
theorem fX4_raiseRow_4 : ∀ w ∈ wsX40, w ∈ wsX4_raiseRow := fun w h => (List.mem_cons_of_mem _ (List.mem_append_right _ h))
theorem hdX4_raiseRow : yX4_raiseRow.cls = RX4 ∧ yX4_raiseRow.cls ≠ "java/lang/invoke/MethodHandle" ∧ yX4_raiseRow.cls ≠ "java/lang/invoke/VarHandle" ∧ (parseMethodDescriptor yX4_raiseRow.desc).map (fun d => d.parameters.length) = some 4 := by decide +kernel
theorem kX4_valueOf_16 : Cond.fieldLink RX4 11 "Nestedfare$SeatTable" "values" "[I" ∈ wsX4_valueOf := List.mem_of_getElem? (i := 1) rfl
theorem kX4_valueOf_24 : Cond.fieldLink RX4 11 "Nestedfare$SeatTable" "values" "[I" ∈ wsX4_valueOf := List.mem_of_getElem? (i := 1) rfl
theorem fX4_valueOf_4 : ∀ w ∈ wsX40, w ∈ wsX4_valueOf := fun w h => (List.mem_cons_of_mem _ (List.mem_append_right _ h))
theorem hdX4_valueOf : yX4_valueOf.cls = RX4 ∧ yX4_valueOf.cls ≠ "java/lang/invoke/MethodHandle" ∧ yX4_valueOf.cls ≠ "java/lang/invoke/VarHandle" ∧ (parseMethodDescriptor yX4_valueOf.desc).map (fun d => d.parameters.length) = some 3 := by decide +kernel
theorem kX5_addProduct_51 : Cond.fieldLink RX5 42 "Nestedfare" "offeredCount" "I" ∈ wsX5_addProduct := List.mem_of_getElem? (i := 7) rfl
theorem kX5_addProduct_80 : Cond.fieldLink RX5 42 "Nestedfare" "offeredCount" "I" ∈ wsX5_addProduct := List.mem_of_getElem? (i := 7) rfl
theorem nclX5_addProduct_86 : Cond.classLink RX5 13 RX2 ∈ wsX5_addProduct := List.mem_of_getElem? (i := 8) rfl
theorem ninX5_addProduct_86 : Cond.instantiable RX2 7 ∈ wsX5_addProduct := List.mem_of_getElem? (i := 9) rfl
theorem niiX5_addProduct_86 : Cond.initialized RX2 ∈ wsX5_addProduct := List.mem_of_getElem? (i := 10) rfl
theorem kX5_addProduct_94 : Cond.fieldLink RX5 49 "Nestedfare" "pastDays" "I" ∈ wsX5_addProduct := List.mem_of_getElem? (i := 11) rfl
theorem fX5_addProduct_2 : ∀ w ∈ wsX20, w ∈ wsX5_addProduct := fun w h => (List.mem_cons_of_mem _ (List.mem_append_left _ (List.mem_append_left _ (List.mem_append_left _ (List.mem_append_right _ h)))))
theorem fX5_addProduct_5 : ∀ w ∈ wsX50, w ∈ wsX5_addProduct := fun w h => (List.mem_cons_of_mem _ (List.mem_append_left _ (List.mem_append_left _ (List.mem_append_left _ (List.mem_append_left _ (List.mem_append_right _ h))))))
theorem hdX5_addProduct : yX5_addProduct.cls = RX5 ∧ yX5_addProduct.cls ≠ "java/lang/invoke/MethodHandle" ∧ yX5_addProduct.cls ≠ "java/lang/invoke/VarHandle" ∧ (parseMethodDescriptor yX5_addProduct.desc).map (fun d => d.parameters.length) = some 3 := by decide +kernel
theorem kX5_ask_21 : Cond.fieldLink RX5 46 "Nestedfare" "bookingCount" "I" ∈ wsX5_ask := List.mem_of_getElem? (i := 5) rfl
theorem nclX5_ask_105 : Cond.classLink RX5 22 RX0 ∈ wsX5_ask := List.mem_of_getElem? (i := 6) rfl
theorem ninX5_ask_105 : Cond.instantiable RX0 5 ∈ wsX5_ask := List.mem_of_getElem? (i := 7) rfl
theorem niiX5_ask_105 : Cond.initialized RX0 ∈ wsX5_ask := List.mem_of_getElem? (i := 8) rfl
theorem fX5_ask_0 : ∀ w ∈ wsX00, w ∈ wsX5_ask := fun w h => (List.mem_cons_of_mem _ (List.mem_append_left _ (List.mem_append_left _ (List.mem_append_left _ (List.mem_append_left _ (List.mem_append_right _ h))))))
theorem fX5_ask_2 : ∀ w ∈ wsX20, w ∈ wsX5_ask := fun w h => (List.mem_cons_of_mem _ (List.mem_append_left _ (List.mem_append_left _ (List.mem_append_left _ (List.mem_append_left _ (List.mem_append_left _ (List.mem_append_right _ h)))))))
theorem fX5_ask_5 : ∀ w ∈ wsX50, w ∈ wsX5_ask := fun w h => (List.mem_cons_of_mem _ (List.mem_append_left _ (List.mem_append_left _ (List.mem_append_left _ (List.mem_append_left _ (List.mem_append_left _ (List.mem_append_left _ (List.mem_append_right _ h))))))))
theorem hdX5_ask : yX5_ask.cls = RX5 ∧ yX5_ask.cls ≠ "java/lang/invoke/MethodHandle" ∧ yX5_ask.cls ≠ "java/lang/invoke/VarHandle" ∧ (parseMethodDescriptor yX5_ask.desc).map (fun d => d.parameters.length) = some 1 := by decide +kernel
theorem fX5_asked_2 : ∀ w ∈ wsX20, w ∈ wsX5_asked := fun w h => (List.mem_cons_of_mem _ (List.mem_append_left _ (List.mem_append_left _ (List.mem_append_right _ h))))
theorem fX5_asked_5 : ∀ w ∈ wsX50, w ∈ wsX5_asked := fun w h => (List.mem_cons_of_mem _ (List.mem_append_left _ (List.mem_append_right _ h)))
theorem hdX5_asked : yX5_asked.cls = RX5 ∧ yX5_asked.cls ≠ "java/lang/invoke/MethodHandle" ∧ yX5_asked.cls ≠ "java/lang/invoke/VarHandle" ∧ (parseMethodDescriptor yX5_asked.desc).map (fun d => d.parameters.length) = some 1 := by decide +kernel
theorem fX5_authorised_5 : ∀ w ∈ wsX50, w ∈ wsX5_authorised := fun w h => (List.mem_cons_of_mem _ (List.mem_append_left _ (List.mem_append_right _ h)))
theorem hdX5_authorised : yX5_authorised.cls = RX5 ∧ yX5_authorised.cls ≠ "java/lang/invoke/MethodHandle" ∧ yX5_authorised.cls ≠ "java/lang/invoke/VarHandle" ∧ (parseMethodDescriptor yX5_authorised.desc).map (fun d => d.parameters.length) = some 1 := by decide +kernel
theorem kX5_authorisedOn_11 : Cond.fieldLink RX5 52 "Nestedfare" "showRate" "I" ∈ wsX5_authorisedOn := List.mem_of_getElem? (i := 1) rfl
theorem fX5_authorisedOn_5 : ∀ w ∈ wsX50, w ∈ wsX5_authorisedOn := fun w h => (List.mem_cons_of_mem _ (List.mem_append_right _ h))
theorem hdX5_authorisedOn : yX5_authorisedOn.cls = RX5 ∧ yX5_authorisedOn.cls ≠ "java/lang/invoke/MethodHandle" ∧ yX5_authorisedOn.cls ≠ "java/lang/invoke/VarHandle" ∧ (parseMethodDescriptor yX5_authorisedOn.desc).map (fun d => d.parameters.length) = some 1 := by decide +kernel
theorem kX5_average_21 : Cond.fieldLink RX5 49 "Nestedfare" "pastDays" "I" ∈ wsX5_average := List.mem_of_getElem? (i := 3) rfl
theorem kX5_average_35 : Cond.fieldLink RX5 49 "Nestedfare" "pastDays" "I" ∈ wsX5_average := List.mem_of_getElem? (i := 3) rfl
theorem fX5_average_2 : ∀ w ∈ wsX20, w ∈ wsX5_average := fun w h => (List.mem_cons_of_mem _ (List.mem_append_left _ (List.mem_append_right _ h)))
theorem fX5_average_5 : ∀ w ∈ wsX50, w ∈ wsX5_average := fun w h => (List.mem_cons_of_mem _ (List.mem_append_left _ (List.mem_append_left _ (List.mem_append_right _ h))))
theorem hdX5_average : yX5_average.cls = RX5 ∧ yX5_average.cls ≠ "java/lang/invoke/MethodHandle" ∧ yX5_average.cls ≠ "java/lang/invoke/VarHandle" ∧ (parseMethodDescriptor yX5_average.desc).map (fun d => d.parameters.length) = some 1 := by decide +kernel
theorem fX5_bid_5 : ∀ w ∈ wsX50, w ∈ wsX5_bid := fun w h => (List.mem_cons_of_mem _ (List.mem_append_left _ (List.mem_append_left _ (List.mem_append_left _ (List.mem_append_left _ (List.mem_append_left _ (List.mem_append_right _ h)))))))
theorem hdX5_bid : yX5_bid.cls = RX5 ∧ yX5_bid.cls ≠ "java/lang/invoke/MethodHandle" ∧ yX5_bid.cls ≠ "java/lang/invoke/VarHandle" ∧ (parseMethodDescriptor yX5_bid.desc).map (fun d => d.parameters.length) = some 1 := by decide +kernel
theorem fX5_bidsOver_5 : ∀ w ∈ wsX50, w ∈ wsX5_bidsOver := fun w h => (List.mem_cons_of_mem _ (List.mem_append_left _ (List.mem_append_left _ (List.mem_append_left _ (List.mem_append_left _ (List.mem_append_right _ h))))))
theorem hdX5_bidsOver : yX5_bidsOver.cls = RX5 ∧ yX5_bidsOver.cls ≠ "java/lang/invoke/MethodHandle" ∧ yX5_bidsOver.cls ≠ "java/lang/invoke/VarHandle" ∧ (parseMethodDescriptor yX5_bidsOver.desc).map (fun d => d.parameters.length) = some 2 := by decide +kernel
theorem fX5_booked_5 : ∀ w ∈ wsX50, w ∈ wsX5_booked := fun w h => (List.mem_cons_of_mem _ (List.mem_append_left _ (List.mem_append_left _ (List.mem_append_right _ h))))
theorem hdX5_booked : yX5_booked.cls = RX5 ∧ yX5_booked.cls ≠ "java/lang/invoke/MethodHandle" ∧ yX5_booked.cls ≠ "java/lang/invoke/VarHandle" ∧ (parseMethodDescriptor yX5_booked.desc).map (fun d => d.parameters.length) = some 1 := by decide +kernel
theorem kX5_bookedOn_6 : Cond.fieldLink RX5 46 "Nestedfare" "bookingCount" "I" ∈ wsX5_bookedOn := List.mem_of_getElem? (i := 1) rfl
theorem fX5_bookedOn_5 : ∀ w ∈ wsX50, w ∈ wsX5_bookedOn := fun w h => (List.mem_cons_of_mem _ (List.mem_append_left _ (List.mem_append_right _ h)))
theorem hdX5_bookedOn : yX5_bookedOn.cls = RX5 ∧ yX5_bookedOn.cls ≠ "java/lang/invoke/MethodHandle" ∧ yX5_bookedOn.cls ≠ "java/lang/invoke/VarHandle" ∧ (parseMethodDescriptor yX5_bookedOn.desc).map (fun d => d.parameters.length) = some 1 := by decide +kernel
theorem kX5_bookingAt_6 : Cond.fieldLink RX5 46 "Nestedfare" "bookingCount" "I" ∈ wsX5_bookingAt := List.mem_of_getElem? (i := 1) rfl
theorem kX5_bookingAt_14 : Cond.fieldLink RX5 24 "Nestedfare" "bookings" "[LNestedfare$Booking;" ∈ wsX5_bookingAt := List.mem_of_getElem? (i := 2) rfl
theorem kX5_bookingAt_22 : Cond.fieldLink RX5 24 "Nestedfare" "bookings" "[LNestedfare$Booking;" ∈ wsX5_bookingAt := List.mem_of_getElem? (i := 2) rfl
theorem fX5_bookingAt_5 : ∀ w ∈ wsX50, w ∈ wsX5_bookingAt := fun w h => (List.mem_cons_of_mem _ (List.mem_append_right _ h))
theorem hdX5_bookingAt : yX5_bookingAt.cls = RX5 ∧ yX5_bookingAt.cls ≠ "java/lang/invoke/MethodHandle" ∧ yX5_bookingAt.cls ≠ "java/lang/invoke/VarHandle" ∧ (parseMethodDescriptor yX5_bookingAt.desc).map (fun d => d.parameters.length) = some 1 := by decide +kernel
theorem fX5_cancel_0 : ∀ w ∈ wsX00, w ∈ wsX5_cancel := fun w h => (List.mem_cons_of_mem _ (List.mem_append_left _ (List.mem_append_left _ (List.mem_append_left _ (List.mem_append_right _ h)))))
theorem fX5_cancel_5 : ∀ w ∈ wsX50, w ∈ wsX5_cancel := fun w h => (List.mem_cons_of_mem _ (List.mem_append_left _ (List.mem_append_left _ (List.mem_append_right _ h))))
theorem hdX5_cancel : yX5_cancel.cls = RX5 ∧ yX5_cancel.cls ≠ "java/lang/invoke/MethodHandle" ∧ yX5_cancel.cls ≠ "java/lang/invoke/VarHandle" ∧ (parseMethodDescriptor yX5_cancel.desc).map (fun d => d.parameters.length) = some 1 := by decide +kernel
theorem kX5_days_1 : Cond.fieldLink RX5 49 "Nestedfare" "pastDays" "I" ∈ wsX5_days := List.mem_of_getElem? (i := 1) rfl
theorem fX5_days_5 : ∀ w ∈ wsX50, w ∈ wsX5_days := fun w h => (List.mem_cons_of_mem _ (List.mem_append_right _ h))
theorem hdX5_days : yX5_days.cls = RX5 ∧ yX5_days.cls ≠ "java/lang/invoke/MethodHandle" ∧ yX5_days.cls ≠ "java/lang/invoke/VarHandle" ∧ (parseMethodDescriptor yX5_days.desc).map (fun d => d.parameters.length) = some 0 := by decide +kernel
theorem mlX5_deniedOn_24 : Cond.methodLink RX5 231 Lib.Math.max.name ∈ wsX5_deniedOn := List.mem_of_getElem? (i := 1) rfl
theorem msX5_deniedOn_24 : Cond.static Lib.Math.max.name ∈ wsX5_deniedOn := List.mem_of_getElem? (i := 2) rfl
theorem miX5_deniedOn_24 : Cond.initialized "java/lang/Math" ∈ wsX5_deniedOn := List.mem_of_getElem? (i := 3) rfl
theorem mcX5_deniedOn_24 : Cond.code Lib.Math.max.name Lib.Math.max.code 2 (some .int) ∈ wsX5_deniedOn := List.mem_of_getElem? (i := 4) rfl
theorem fX5_deniedOn_5 : ∀ w ∈ wsX50, w ∈ wsX5_deniedOn := fun w h => (List.mem_cons_of_mem _ (List.mem_append_left _ (List.mem_append_right _ h)))
theorem hdX5_deniedOn : yX5_deniedOn.cls = RX5 ∧ yX5_deniedOn.cls ≠ "java/lang/invoke/MethodHandle" ∧ yX5_deniedOn.cls ≠ "java/lang/invoke/VarHandle" ∧ (parseMethodDescriptor yX5_deniedOn.desc).map (fun d => d.parameters.length) = some 2 := by decide +kernel
theorem fX5_displaced_5 : ∀ w ∈ wsX50, w ∈ wsX5_displaced := fun w h => (List.mem_cons_of_mem _ (List.mem_append_left _ (List.mem_append_left _ (List.mem_append_left _ (List.mem_append_left _ (List.mem_append_left _ (List.mem_append_left _ (List.mem_append_right _ h))))))))
theorem hdX5_displaced : yX5_displaced.cls = RX5 ∧ yX5_displaced.cls ≠ "java/lang/invoke/MethodHandle" ∧ yX5_displaced.cls ≠ "java/lang/invoke/VarHandle" ∧ (parseMethodDescriptor yX5_displaced.desc).map (fun d => d.parameters.length) = some 3 := by decide +kernel
theorem fX5_displacement_5 : ∀ w ∈ wsX50, w ∈ wsX5_displacement := fun w h => (List.mem_cons_of_mem _ (List.mem_append_left _ (List.mem_append_left _ (List.mem_append_left _ (List.mem_append_left _ (List.mem_append_right _ h))))))
theorem hdX5_displacement : yX5_displacement.cls = RX5 ∧ yX5_displacement.cls ≠ "java/lang/invoke/MethodHandle" ∧ yX5_displacement.cls ≠ "java/lang/invoke/VarHandle" ∧ (parseMethodDescriptor yX5_displacement.desc).map (fun d => d.parameters.length) = some 3 := by decide +kernel
theorem kX5_earned_1 : Cond.fieldLink RX5 64 "Nestedfare" "earnedBefore" "J" ∈ wsX5_earned := List.mem_of_getElem? (i := 1) rfl
theorem fX5_earned_5 : ∀ w ∈ wsX50, w ∈ wsX5_earned := fun w h => (List.mem_cons_of_mem _ (List.mem_append_right _ h))
theorem hdX5_earned : yX5_earned.cls = RX5 ∧ yX5_earned.cls ≠ "java/lang/invoke/MethodHandle" ∧ yX5_earned.cls ≠ "java/lang/invoke/VarHandle" ∧ (parseMethodDescriptor yX5_earned.desc).map (fun d => d.parameters.length) = some 0 := by decide +kernel
theorem kX5_endDay_46 : Cond.fieldLink RX5 64 "Nestedfare" "earnedBefore" "J" ∈ wsX5_endDay := List.mem_of_getElem? (i := 3) rfl
theorem kX5_endDay_60 : Cond.fieldLink RX5 64 "Nestedfare" "earnedBefore" "J" ∈ wsX5_endDay := List.mem_of_getElem? (i := 3) rfl
theorem kX5_endDay_69 : Cond.fieldLink RX5 46 "Nestedfare" "bookingCount" "I" ∈ wsX5_endDay := List.mem_of_getElem? (i := 4) rfl
theorem fX5_endDay_5 : ∀ w ∈ wsX50, w ∈ wsX5_endDay := fun w h => (List.mem_cons_of_mem _ (List.mem_append_left _ (List.mem_append_left _ (List.mem_append_left _ (List.mem_append_right _ h)))))
theorem hdX5_endDay : yX5_endDay.cls = RX5 ∧ yX5_endDay.cls ≠ "java/lang/invoke/MethodHandle" ∧ yX5_endDay.cls ≠ "java/lang/invoke/VarHandle" ∧ (parseMethodDescriptor yX5_endDay.desc).map (fun d => d.parameters.length) = some 1 := by decide +kernel
theorem kX5_enter_1 : Cond.fieldLink RX5 46 "Nestedfare" "bookingCount" "I" ∈ wsX5_enter := List.mem_of_getElem? (i := 1) rfl
theorem kX5_enter_11 : Cond.fieldLink RX5 24 "Nestedfare" "bookings" "[LNestedfare$Booking;" ∈ wsX5_enter := List.mem_of_getElem? (i := 2) rfl
theorem kX5_enter_19 : Cond.fieldLink RX5 24 "Nestedfare" "bookings" "[LNestedfare$Booking;" ∈ wsX5_enter := List.mem_of_getElem? (i := 2) rfl
theorem kX5_enter_27 : Cond.fieldLink RX5 46 "Nestedfare" "bookingCount" "I" ∈ wsX5_enter := List.mem_of_getElem? (i := 1) rfl
theorem kX5_enter_32 : Cond.fieldLink RX5 46 "Nestedfare" "bookingCount" "I" ∈ wsX5_enter := List.mem_of_getElem? (i := 1) rfl
theorem fX5_enter_5 : ∀ w ∈ wsX50, w ∈ wsX5_enter := fun w h => (List.mem_cons_of_mem _ (List.mem_append_right _ h))
theorem hdX5_enter : yX5_enter.cls = RX5 ∧ yX5_enter.cls ≠ "java/lang/invoke/MethodHandle" ∧ yX5_enter.cls ≠ "java/lang/invoke/VarHandle" ∧ (parseMethodDescriptor yX5_enter.desc).map (fun d => d.parameters.length) = some 1 := by decide +kernel
theorem fX5_expected_2 : ∀ w ∈ wsX20, w ∈ wsX5_expected := fun w h => (List.mem_cons_of_mem _ (List.mem_append_left _ (List.mem_append_left _ (List.mem_append_right _ h))))
theorem fX5_expected_5 : ∀ w ∈ wsX50, w ∈ wsX5_expected := fun w h => (List.mem_cons_of_mem _ (List.mem_append_left _ (List.mem_append_right _ h)))
theorem hdX5_expected : yX5_expected.cls = RX5 ∧ yX5_expected.cls ≠ "java/lang/invoke/MethodHandle" ∧ yX5_expected.cls ≠ "java/lang/invoke/VarHandle" ∧ (parseMethodDescriptor yX5_expected.desc).map (fun d => d.parameters.length) = some 1 := by decide +kernel
theorem kX5_faresOfToday_6 : Cond.fieldLink RX5 46 "Nestedfare" "bookingCount" "I" ∈ wsX5_faresOfToday := List.mem_of_getElem? (i := 1) rfl
theorem fX5_faresOfToday_0 : ∀ w ∈ wsX00, w ∈ wsX5_faresOfToday := fun w h => (List.mem_cons_of_mem _ (List.mem_append_right _ h))
theorem fX5_faresOfToday_5 : ∀ w ∈ wsX50, w ∈ wsX5_faresOfToday := fun w h => (List.mem_cons_of_mem _ (List.mem_append_left _ (List.mem_append_right _ h)))
theorem hdX5_faresOfToday : yX5_faresOfToday.cls = RX5 ∧ yX5_faresOfToday.cls ≠ "java/lang/invoke/MethodHandle" ∧ yX5_faresOfToday.cls ≠ "java/lang/invoke/VarHandle" ∧ (parseMethodDescriptor yX5_faresOfToday.desc).map (fun d => d.parameters.length) = some 0 := by decide +kernel
theorem kX5_group_62 : Cond.fieldLink RX5 46 "Nestedfare" "bookingCount" "I" ∈ wsX5_group := List.mem_of_getElem? (i := 7) rfl
theorem nclX5_group_122 : Cond.classLink RX5 22 RX0 ∈ wsX5_group := List.mem_of_getElem? (i := 8) rfl
theorem ninX5_group_122 : Cond.instantiable RX0 5 ∈ wsX5_group := List.mem_of_getElem? (i := 9) rfl
theorem niiX5_group_122 : Cond.initialized RX0 ∈ wsX5_group := List.mem_of_getElem? (i := 10) rfl
theorem fX5_group_0 : ∀ w ∈ wsX00, w ∈ wsX5_group := fun w h => (List.mem_cons_of_mem _ (List.mem_append_left _ (List.mem_append_left _ (List.mem_append_left _ (List.mem_append_left _ (List.mem_append_left _ (List.mem_append_left _ (List.mem_append_right _ h))))))))
theorem fX5_group_5 : ∀ w ∈ wsX50, w ∈ wsX5_group := fun w h => (List.mem_cons_of_mem _ (List.mem_append_left _ (List.mem_append_left _ (List.mem_append_left _ (List.mem_append_left _ (List.mem_append_left _ (List.mem_append_left _ (List.mem_append_left _ (List.mem_append_right _ h)))))))))
theorem hdX5_group : yX5_group.cls = RX5 ∧ yX5_group.cls ≠ "java/lang/invoke/MethodHandle" ∧ yX5_group.cls ≠ "java/lang/invoke/VarHandle" ∧ (parseMethodDescriptor yX5_group.desc).map (fun d => d.parameters.length) = some 4 := by decide +kernel
theorem fX5_hasLeft_5 : ∀ w ∈ wsX50, w ∈ wsX5_hasLeft := fun w h => (List.mem_cons_of_mem _ (List.mem_append_left _ (List.mem_append_right _ h)))
theorem hdX5_hasLeft : yX5_hasLeft.cls = RX5 ∧ yX5_hasLeft.cls ≠ "java/lang/invoke/MethodHandle" ∧ yX5_hasLeft.cls ≠ "java/lang/invoke/VarHandle" ∧ (parseMethodDescriptor yX5_hasLeft.desc).map (fun d => d.parameters.length) = some 3 := by decide +kernel
theorem kX5_init_8 : Cond.fieldLink RX5 9 "Nestedfare" "seats" "[I" ∈ wsX5_init := List.mem_of_getElem? (i := 5) rfl
theorem kX5_init_17 : Cond.fieldLink RX5 15 "Nestedfare" "offered" "[LNestedfare$Product;" ∈ wsX5_init := List.mem_of_getElem? (i := 7) rfl
theorem kX5_init_26 : Cond.fieldLink RX5 19 "Nestedfare" "dearestFirst" "[LNestedfare$Product;" ∈ wsX5_init := List.mem_of_getElem? (i := 8) rfl
theorem kX5_init_35 : Cond.fieldLink RX5 24 "Nestedfare" "bookings" "[LNestedfare$Booking;" ∈ wsX5_init := List.mem_of_getElem? (i := 10) rfl
theorem nclX5_init_39 : Cond.classLink RX5 28 RX1 ∈ wsX5_init := List.mem_of_getElem? (i := 11) rfl
theorem ninX5_init_39 : Cond.instantiable RX1 6 ∈ wsX5_init := List.mem_of_getElem? (i := 12) rfl
theorem niiX5_init_39 : Cond.initialized RX1 ∈ wsX5_init := List.mem_of_getElem? (i := 13) rfl
theorem kX5_init_46 : Cond.fieldLink RX5 31 "Nestedfare" "demand" "LNestedfare$Demand;" ∈ wsX5_init := List.mem_of_getElem? (i := 14) rfl
theorem nclX5_init_50 : Cond.classLink RX5 35 RX4 ∈ wsX5_init := List.mem_of_getElem? (i := 15) rfl
theorem ninX5_init_50 : Cond.instantiable RX4 1 ∈ wsX5_init := List.mem_of_getElem? (i := 16) rfl
theorem niiX5_init_50 : Cond.initialized RX4 ∈ wsX5_init := List.mem_of_getElem? (i := 17) rfl
theorem kX5_init_57 : Cond.fieldLink RX5 38 "Nestedfare" "table" "LNestedfare$SeatTable;" ∈ wsX5_init := List.mem_of_getElem? (i := 18) rfl
theorem kX5_init_62 : Cond.fieldLink RX5 42 "Nestedfare" "offeredCount" "I" ∈ wsX5_init := List.mem_of_getElem? (i := 19) rfl
theorem kX5_init_67 : Cond.fieldLink RX5 46 "Nestedfare" "bookingCount" "I" ∈ wsX5_init := List.mem_of_getElem? (i := 20) rfl
theorem kX5_init_72 : Cond.fieldLink RX5 49 "Nestedfare" "pastDays" "I" ∈ wsX5_init := List.mem_of_getElem? (i := 21) rfl
theorem kX5_init_78 : Cond.fieldLink RX5 52 "Nestedfare" "showRate" "I" ∈ wsX5_init := List.mem_of_getElem? (i := 22) rfl
theorem kX5_init_83 : Cond.fieldLink RX5 55 "Nestedfare" "refusedFull" "I" ∈ wsX5_init := List.mem_of_getElem? (i := 23) rfl
theorem kX5_init_88 : Cond.fieldLink RX5 58 "Nestedfare" "refusedProtected" "I" ∈ wsX5_init := List.mem_of_getElem? (i := 24) rfl
theorem kX5_init_93 : Cond.fieldLink RX5 61 "Nestedfare" "refusedBelow" "I" ∈ wsX5_init := List.mem_of_getElem? (i := 25) rfl
theorem kX5_init_98 : Cond.fieldLink RX5 64 "Nestedfare" "earnedBefore" "J" ∈ wsX5_init := List.mem_of_getElem? (i := 26) rfl
theorem fX5_init_1 : ∀ w ∈ wsX10, w ∈ wsX5_init := fun w h => (List.mem_cons_of_mem _ (List.mem_append_left _ (List.mem_append_left _ (List.mem_append_right _ h))))
theorem fX5_init_4 : ∀ w ∈ wsX40, w ∈ wsX5_init := fun w h => (List.mem_cons_of_mem _ (List.mem_append_left _ (List.mem_append_right _ h)))
theorem fX5_init_5 : ∀ w ∈ wsX50, w ∈ wsX5_init := fun w h => (List.mem_cons_of_mem _ (List.mem_append_left _ (List.mem_append_left _ (List.mem_append_left _ (List.mem_append_right _ h)))))
theorem hdX5_init : yX5_init.cls = RX5 ∧ yX5_init.cls ≠ "java/lang/invoke/MethodHandle" ∧ yX5_init.cls ≠ "java/lang/invoke/VarHandle" ∧ (parseMethodDescriptor yX5_init.desc).map (fun d => d.parameters.length) = some 0 := by decide +kernel
theorem fX5_isFull_2 : ∀ w ∈ wsX20, w ∈ wsX5_isFull := fun w h => (List.mem_cons_of_mem _ (List.mem_append_left _ (List.mem_append_left _ (List.mem_append_right _ h))))
theorem fX5_isFull_5 : ∀ w ∈ wsX50, w ∈ wsX5_isFull := fun w h => (List.mem_cons_of_mem _ (List.mem_append_left _ (List.mem_append_right _ h)))
theorem hdX5_isFull : yX5_isFull.cls = RX5 ∧ yX5_isFull.cls ≠ "java/lang/invoke/MethodHandle" ∧ yX5_isFull.cls ≠ "java/lang/invoke/VarHandle" ∧ (parseMethodDescriptor yX5_isFull.desc).map (fun d => d.parameters.length) = some 1 := by decide +kernel
theorem hdX5_isLeg : yX5_isLeg.cls = RX5 ∧ yX5_isLeg.cls ≠ "java/lang/invoke/MethodHandle" ∧ yX5_isLeg.cls ≠ "java/lang/invoke/VarHandle" ∧ (parseMethodDescriptor yX5_isLeg.desc).map (fun d => d.parameters.length) = some 1 := by decide +kernel
theorem kX5_isOffered_1 : Cond.fieldLink RX5 15 "Nestedfare" "offered" "[LNestedfare$Product;" ∈ wsX5_isOffered := List.mem_of_getElem? (i := 1) rfl
theorem fX5_isOffered_2 : ∀ w ∈ wsX20, w ∈ wsX5_isOffered := fun w h => (List.mem_cons_of_mem _ (List.mem_append_right _ h))
theorem fX5_isOffered_5 : ∀ w ∈ wsX50, w ∈ wsX5_isOffered := fun w h => (List.mem_cons_of_mem _ (List.mem_append_left _ (List.mem_append_right _ h)))
theorem hdX5_isOffered : yX5_isOffered.cls = RX5 ∧ yX5_isOffered.cls ≠ "java/lang/invoke/MethodHandle" ∧ yX5_isOffered.cls ≠ "java/lang/invoke/VarHandle" ∧ (parseMethodDescriptor yX5_isOffered.desc).map (fun d => d.parameters.length) = some 3 := by decide +kernel
theorem fX5_isProtected_2 : ∀ w ∈ wsX20, w ∈ wsX5_isProtected := fun w h => (List.mem_cons_of_mem _ (List.mem_append_left _ (List.mem_append_left _ (List.mem_append_right _ h))))
theorem fX5_isProtected_5 : ∀ w ∈ wsX50, w ∈ wsX5_isProtected := fun w h => (List.mem_cons_of_mem _ (List.mem_append_left _ (List.mem_append_right _ h)))
theorem hdX5_isProtected : yX5_isProtected.cls = RX5 ∧ yX5_isProtected.cls ≠ "java/lang/invoke/MethodHandle" ∧ yX5_isProtected.cls ≠ "java/lang/invoke/VarHandle" ∧ (parseMethodDescriptor yX5_isProtected.desc).map (fun d => d.parameters.length) = some 1 := by decide +kernel
theorem kX5_learn_2 : Cond.fieldLink RX5 49 "Nestedfare" "pastDays" "I" ∈ wsX5_learn := List.mem_of_getElem? (i := 1) rfl
theorem kX5_learn_7 : Cond.fieldLink RX5 49 "Nestedfare" "pastDays" "I" ∈ wsX5_learn := List.mem_of_getElem? (i := 1) rfl
theorem kX5_learn_11 : Cond.fieldLink RX5 15 "Nestedfare" "offered" "[LNestedfare$Product;" ∈ wsX5_learn := List.mem_of_getElem? (i := 2) rfl
theorem kX5_learn_38 : Cond.fieldLink RX5 49 "Nestedfare" "pastDays" "I" ∈ wsX5_learn := List.mem_of_getElem? (i := 1) rfl
theorem fX5_learn_5 : ∀ w ∈ wsX50, w ∈ wsX5_learn := fun w h => (List.mem_cons_of_mem _ (List.mem_append_left _ (List.mem_append_right _ h)))
theorem hdX5_learn : yX5_learn.cls = RX5 ∧ yX5_learn.cls ≠ "java/lang/invoke/MethodHandle" ∧ yX5_learn.cls ≠ "java/lang/invoke/VarHandle" ∧ (parseMethodDescriptor yX5_learn.desc).map (fun d => d.parameters.length) = some 0 := by decide +kernel
theorem mlX5_leftOn_12 : Cond.methodLink RX5 231 Lib.Math.max.name ∈ wsX5_leftOn := List.mem_of_getElem? (i := 1) rfl
theorem msX5_leftOn_12 : Cond.static Lib.Math.max.name ∈ wsX5_leftOn := List.mem_of_getElem? (i := 2) rfl
theorem miX5_leftOn_12 : Cond.initialized "java/lang/Math" ∈ wsX5_leftOn := List.mem_of_getElem? (i := 3) rfl
theorem mcX5_leftOn_12 : Cond.code Lib.Math.max.name Lib.Math.max.code 2 (some .int) ∈ wsX5_leftOn := List.mem_of_getElem? (i := 4) rfl
theorem fX5_leftOn_5 : ∀ w ∈ wsX50, w ∈ wsX5_leftOn := fun w h => (List.mem_cons_of_mem _ (List.mem_append_left _ (List.mem_append_right _ h)))
theorem hdX5_leftOn : yX5_leftOn.cls = RX5 ∧ yX5_leftOn.cls ≠ "java/lang/invoke/MethodHandle" ∧ yX5_leftOn.cls ≠ "java/lang/invoke/VarHandle" ∧ (parseMethodDescriptor yX5_leftOn.desc).map (fun d => d.parameters.length) = some 1 := by decide +kernel
theorem kX5_offer_1 : Cond.fieldLink RX5 42 "Nestedfare" "offeredCount" "I" ∈ wsX5_offer := List.mem_of_getElem? (i := 1) rfl
theorem kX5_offer_11 : Cond.fieldLink RX5 15 "Nestedfare" "offered" "[LNestedfare$Product;" ∈ wsX5_offer := List.mem_of_getElem? (i := 2) rfl
theorem kX5_offer_20 : Cond.fieldLink RX5 19 "Nestedfare" "dearestFirst" "[LNestedfare$Product;" ∈ wsX5_offer := List.mem_of_getElem? (i := 3) rfl
theorem kX5_offer_29 : Cond.fieldLink RX5 15 "Nestedfare" "offered" "[LNestedfare$Product;" ∈ wsX5_offer := List.mem_of_getElem? (i := 2) rfl
theorem kX5_offer_37 : Cond.fieldLink RX5 42 "Nestedfare" "offeredCount" "I" ∈ wsX5_offer := List.mem_of_getElem? (i := 1) rfl
theorem kX5_offer_42 : Cond.fieldLink RX5 42 "Nestedfare" "offeredCount" "I" ∈ wsX5_offer := List.mem_of_getElem? (i := 1) rfl
theorem kX5_offer_50 : Cond.fieldLink RX5 19 "Nestedfare" "dearestFirst" "[LNestedfare$Product;" ∈ wsX5_offer := List.mem_of_getElem? (i := 3) rfl
theorem kX5_offer_61 : Cond.fieldLink RX5 19 "Nestedfare" "dearestFirst" "[LNestedfare$Product;" ∈ wsX5_offer := List.mem_of_getElem? (i := 3) rfl
theorem kX5_offer_79 : Cond.fieldLink RX5 19 "Nestedfare" "dearestFirst" "[LNestedfare$Product;" ∈ wsX5_offer := List.mem_of_getElem? (i := 3) rfl
theorem kX5_offer_84 : Cond.fieldLink RX5 19 "Nestedfare" "dearestFirst" "[LNestedfare$Product;" ∈ wsX5_offer := List.mem_of_getElem? (i := 3) rfl
theorem kX5_offer_99 : Cond.fieldLink RX5 19 "Nestedfare" "dearestFirst" "[LNestedfare$Product;" ∈ wsX5_offer := List.mem_of_getElem? (i := 3) rfl
theorem fX5_offer_2 : ∀ w ∈ wsX20, w ∈ wsX5_offer := fun w h => (List.mem_cons_of_mem _ (List.mem_append_right _ h))
theorem fX5_offer_5 : ∀ w ∈ wsX50, w ∈ wsX5_offer := fun w h => (List.mem_cons_of_mem _ (List.mem_append_left _ (List.mem_append_right _ h)))
theorem hdX5_offer : yX5_offer.cls = RX5 ∧ yX5_offer.cls ≠ "java/lang/invoke/MethodHandle" ∧ yX5_offer.cls ≠ "java/lang/invoke/VarHandle" ∧ (parseMethodDescriptor yX5_offer.desc).map (fun d => d.parameters.length) = some 1 := by decide +kernel
theorem kX5_productAt_6 : Cond.fieldLink RX5 15 "Nestedfare" "offered" "[LNestedfare$Product;" ∈ wsX5_productAt := List.mem_of_getElem? (i := 1) rfl
theorem kX5_productAt_14 : Cond.fieldLink RX5 15 "Nestedfare" "offered" "[LNestedfare$Product;" ∈ wsX5_productAt := List.mem_of_getElem? (i := 1) rfl
theorem fX5_productAt_5 : ∀ w ∈ wsX50, w ∈ wsX5_productAt := fun w h => (List.mem_cons_of_mem _ (List.mem_append_right _ h))
theorem hdX5_productAt : yX5_productAt.cls = RX5 ∧ yX5_productAt.cls ≠ "java/lang/invoke/MethodHandle" ∧ yX5_productAt.cls ≠ "java/lang/invoke/VarHandle" ∧ (parseMethodDescriptor yX5_productAt.desc).map (fun d => d.parameters.length) = some 1 := by decide +kernel
theorem kX5_products_1 : Cond.fieldLink RX5 42 "Nestedfare" "offeredCount" "I" ∈ wsX5_products := List.mem_of_getElem? (i := 1) rfl
theorem fX5_products_5 : ∀ w ∈ wsX50, w ∈ wsX5_products := fun w h => (List.mem_cons_of_mem _ (List.mem_append_right _ h))
theorem hdX5_products : yX5_products.cls = RX5 ∧ yX5_products.cls ≠ "java/lang/invoke/MethodHandle" ∧ yX5_products.cls ≠ "java/lang/invoke/VarHandle" ∧ (parseMethodDescriptor yX5_products.desc).map (fun d => d.parameters.length) = some 0 := by decide +kernel
theorem kX5_protectedOn_3 : Cond.fieldLink RX5 15 "Nestedfare" "offered" "[LNestedfare$Product;" ∈ wsX5_protectedOn := List.mem_of_getElem? (i := 1) rfl
theorem kX5_protectedOn_58 : Cond.fieldLink RX5 49 "Nestedfare" "pastDays" "I" ∈ wsX5_protectedOn := List.mem_of_getElem? (i := 2) rfl
theorem fX5_protectedOn_2 : ∀ w ∈ wsX20, w ∈ wsX5_protectedOn := fun w h => (List.mem_cons_of_mem _ (List.mem_append_right _ h))
theorem fX5_protectedOn_5 : ∀ w ∈ wsX50, w ∈ wsX5_protectedOn := fun w h => (List.mem_cons_of_mem _ (List.mem_append_left _ (List.mem_append_right _ h)))
theorem hdX5_protectedOn : yX5_protectedOn.cls = RX5 ∧ yX5_protectedOn.cls ≠ "java/lang/invoke/MethodHandle" ∧ yX5_protectedOn.cls ≠ "java/lang/invoke/VarHandle" ∧ (parseMethodDescriptor yX5_protectedOn.desc).map (fun d => d.parameters.length) = some 2 := by decide +kernel
theorem fX5_protectedSeats_5 : ∀ w ∈ wsX50, w ∈ wsX5_protectedSeats := fun w h => (List.mem_cons_of_mem _ (List.mem_append_left _ (List.mem_append_left _ (List.mem_append_left _ (List.mem_append_right _ h)))))
theorem hdX5_protectedSeats : yX5_protectedSeats.cls = RX5 ∧ yX5_protectedSeats.cls ≠ "java/lang/invoke/MethodHandle" ∧ yX5_protectedSeats.cls ≠ "java/lang/invoke/VarHandle" ∧ (parseMethodDescriptor yX5_protectedSeats.desc).map (fun d => d.parameters.length) = some 2 := by decide +kernel
theorem kX5_putSeats_6 : Cond.fieldLink RX5 9 "Nestedfare" "seats" "[I" ∈ wsX5_putSeats := List.mem_of_getElem? (i := 1) rfl
theorem kX5_putSeats_14 : Cond.fieldLink RX5 9 "Nestedfare" "seats" "[I" ∈ wsX5_putSeats := List.mem_of_getElem? (i := 1) rfl
theorem fX5_putSeats_5 : ∀ w ∈ wsX50, w ∈ wsX5_putSeats := fun w h => (List.mem_cons_of_mem _ (List.mem_append_right _ h))
theorem hdX5_putSeats : yX5_putSeats.cls = RX5 ∧ yX5_putSeats.cls ≠ "java/lang/invoke/MethodHandle" ∧ yX5_putSeats.cls ≠ "java/lang/invoke/VarHandle" ∧ (parseMethodDescriptor yX5_putSeats.desc).map (fun d => d.parameters.length) = some 2 := by decide +kernel
theorem kX5_refuse_7 : Cond.fieldLink RX5 55 "Nestedfare" "refusedFull" "I" ∈ wsX5_refuse := List.mem_of_getElem? (i := 1) rfl
theorem kX5_refuse_12 : Cond.fieldLink RX5 55 "Nestedfare" "refusedFull" "I" ∈ wsX5_refuse := List.mem_of_getElem? (i := 1) rfl
theorem kX5_refuse_26 : Cond.fieldLink RX5 58 "Nestedfare" "refusedProtected" "I" ∈ wsX5_refuse := List.mem_of_getElem? (i := 2) rfl
theorem kX5_refuse_31 : Cond.fieldLink RX5 58 "Nestedfare" "refusedProtected" "I" ∈ wsX5_refuse := List.mem_of_getElem? (i := 2) rfl
theorem kX5_refuse_39 : Cond.fieldLink RX5 61 "Nestedfare" "refusedBelow" "I" ∈ wsX5_refuse := List.mem_of_getElem? (i := 3) rfl
theorem kX5_refuse_44 : Cond.fieldLink RX5 61 "Nestedfare" "refusedBelow" "I" ∈ wsX5_refuse := List.mem_of_getElem? (i := 3) rfl
theorem fX5_refuse_5 : ∀ w ∈ wsX50, w ∈ wsX5_refuse := fun w h => (List.mem_cons_of_mem _ (List.mem_append_right _ h))
theorem hdX5_refuse : yX5_refuse.cls = RX5 ∧ yX5_refuse.cls ≠ "java/lang/invoke/MethodHandle" ∧ yX5_refuse.cls ≠ "java/lang/invoke/VarHandle" ∧ (parseMethodDescriptor yX5_refuse.desc).map (fun d => d.parameters.length) = some 1 := by decide +kernel
theorem kX5_refused_29 : Cond.fieldLink RX5 55 "Nestedfare" "refusedFull" "I" ∈ wsX5_refused := List.mem_of_getElem? (i := 3) rfl
theorem kX5_refused_34 : Cond.fieldLink RX5 58 "Nestedfare" "refusedProtected" "I" ∈ wsX5_refused := List.mem_of_getElem? (i := 4) rfl
theorem kX5_refused_39 : Cond.fieldLink RX5 61 "Nestedfare" "refusedBelow" "I" ∈ wsX5_refused := List.mem_of_getElem? (i := 5) rfl
theorem fX5_refused_5 : ∀ w ∈ wsX50, w ∈ wsX5_refused := fun w h => (List.mem_cons_of_mem _ (List.mem_append_left _ (List.mem_append_right _ h)))
theorem hdX5_refused : yX5_refused.cls = RX5 ∧ yX5_refused.cls ≠ "java/lang/invoke/MethodHandle" ∧ yX5_refused.cls ≠ "java/lang/invoke/VarHandle" ∧ (parseMethodDescriptor yX5_refused.desc).map (fun d => d.parameters.length) = some 1 := by decide +kernel
theorem fX5_revenue_5 : ∀ w ∈ wsX50, w ∈ wsX5_revenue := fun w h => (List.mem_cons_of_mem _ (List.mem_append_left _ (List.mem_append_right _ h)))
theorem hdX5_revenue : yX5_revenue.cls = RX5 ∧ yX5_revenue.cls ≠ "java/lang/invoke/MethodHandle" ∧ yX5_revenue.cls ≠ "java/lang/invoke/VarHandle" ∧ (parseMethodDescriptor yX5_revenue.desc).map (fun d => d.parameters.length) = some 0 := by decide +kernel
theorem kX5_seatsOf_6 : Cond.fieldLink RX5 9 "Nestedfare" "seats" "[I" ∈ wsX5_seatsOf := List.mem_of_getElem? (i := 1) rfl
theorem kX5_seatsOf_14 : Cond.fieldLink RX5 9 "Nestedfare" "seats" "[I" ∈ wsX5_seatsOf := List.mem_of_getElem? (i := 1) rfl
theorem fX5_seatsOf_5 : ∀ w ∈ wsX50, w ∈ wsX5_seatsOf := fun w h => (List.mem_cons_of_mem _ (List.mem_append_right _ h))
theorem hdX5_seatsOf : yX5_seatsOf.cls = RX5 ∧ yX5_seatsOf.cls ≠ "java/lang/invoke/MethodHandle" ∧ yX5_seatsOf.cls ≠ "java/lang/invoke/VarHandle" ∧ (parseMethodDescriptor yX5_seatsOf.desc).map (fun d => d.parameters.length) = some 1 := by decide +kernel
theorem fX5_setExpected_2 : ∀ w ∈ wsX20, w ∈ wsX5_setExpected := fun w h => (List.mem_cons_of_mem _ (List.mem_append_left _ (List.mem_append_left _ (List.mem_append_left _ (List.mem_append_right _ h)))))
theorem fX5_setExpected_5 : ∀ w ∈ wsX50, w ∈ wsX5_setExpected := fun w h => (List.mem_cons_of_mem _ (List.mem_append_left _ (List.mem_append_left _ (List.mem_append_right _ h))))
theorem hdX5_setExpected : yX5_setExpected.cls = RX5 ∧ yX5_setExpected.cls ≠ "java/lang/invoke/MethodHandle" ∧ yX5_setExpected.cls ≠ "java/lang/invoke/VarHandle" ∧ (parseMethodDescriptor yX5_setExpected.desc).map (fun d => d.parameters.length) = some 2 := by decide +kernel
theorem kX5_setRate_22 : Cond.fieldLink RX5 52 "Nestedfare" "showRate" "I" ∈ wsX5_setRate := List.mem_of_getElem? (i := 3) rfl
theorem kX5_setRate_28 : Cond.fieldLink RX5 52 "Nestedfare" "showRate" "I" ∈ wsX5_setRate := List.mem_of_getElem? (i := 3) rfl
theorem fX5_setRate_5 : ∀ w ∈ wsX50, w ∈ wsX5_setRate := fun w h => (List.mem_cons_of_mem _ (List.mem_append_left _ (List.mem_append_right _ h)))
theorem hdX5_setRate : yX5_setRate.cls = RX5 ∧ yX5_setRate.cls ≠ "java/lang/invoke/MethodHandle" ∧ yX5_setRate.cls ≠ "java/lang/invoke/VarHandle" ∧ (parseMethodDescriptor yX5_setRate.desc).map (fun d => d.parameters.length) = some 1 := by decide +kernel
theorem fX5_setSeats_5 : ∀ w ∈ wsX50, w ∈ wsX5_setSeats := fun w h => (List.mem_cons_of_mem _ (List.mem_append_left _ (List.mem_append_right _ h)))
theorem hdX5_setSeats : yX5_setSeats.cls = RX5 ∧ yX5_setSeats.cls ≠ "java/lang/invoke/MethodHandle" ∧ yX5_setSeats.cls ≠ "java/lang/invoke/VarHandle" ∧ (parseMethodDescriptor yX5_setSeats.desc).map (fun d => d.parameters.length) = some 3 := by decide +kernel
theorem hdX5_within : yX5_within.cls = RX5 ∧ yX5_within.cls ≠ "java/lang/invoke/MethodHandle" ∧ yX5_within.cls ≠ "java/lang/invoke/VarHandle" ∧ (parseMethodDescriptor yX5_within.desc).map (fun d => d.parameters.length) = some 3 := by decide +kernel
theorem fX5_worth_5 : ∀ w ∈ wsX50, w ∈ wsX5_worth := fun w h => (List.mem_cons_of_mem _ (List.mem_append_left _ (List.mem_append_left _ (List.mem_append_left _ (List.mem_append_left _ (List.mem_append_right _ h))))))
theorem hdX5_worth : yX5_worth.cls = RX5 ∧ yX5_worth.cls ≠ "java/lang/invoke/MethodHandle" ∧ yX5_worth.cls ≠ "java/lang/invoke/VarHandle" ∧ (parseMethodDescriptor yX5_worth.desc).map (fun d => d.parameters.length) = some 0 := by decide +kernel
theorem kX5_worthByTable_19 : Cond.fieldLink RX5 38 "Nestedfare" "table" "LNestedfare$SeatTable;" ∈ wsX5_worthByTable := List.mem_of_getElem? (i := 1) rfl
theorem kX5_worthByTable_26 : Cond.fieldLink RX5 15 "Nestedfare" "offered" "[LNestedfare$Product;" ∈ wsX5_worthByTable := List.mem_of_getElem? (i := 2) rfl
theorem kX5_worthByTable_59 : Cond.fieldLink RX5 38 "Nestedfare" "table" "LNestedfare$SeatTable;" ∈ wsX5_worthByTable := List.mem_of_getElem? (i := 1) rfl
theorem kX5_worthByTable_77 : Cond.fieldLink RX5 38 "Nestedfare" "table" "LNestedfare$SeatTable;" ∈ wsX5_worthByTable := List.mem_of_getElem? (i := 1) rfl
theorem fX5_worthByTable_5 : ∀ w ∈ wsX50, w ∈ wsX5_worthByTable := fun w h => (List.mem_cons_of_mem _ (List.mem_append_left _ (List.mem_append_left _ (List.mem_append_left _ (List.mem_append_right _ h)))))
theorem hdX5_worthByTable : yX5_worthByTable.cls = RX5 ∧ yX5_worthByTable.cls ≠ "java/lang/invoke/MethodHandle" ∧ yX5_worthByTable.cls ≠ "java/lang/invoke/VarHandle" ∧ (parseMethodDescriptor yX5_worthByTable.desc).map (fun d => d.parameters.length) = some 0 := by decide +kernel
theorem kX5_worthWithMore_1 : Cond.fieldLink RX5 31 "Nestedfare" "demand" "LNestedfare$Demand;" ∈ wsX5_worthWithMore := List.mem_of_getElem? (i := 1) rfl
theorem kX5_worthWithMore_8 : Cond.fieldLink RX5 19 "Nestedfare" "dearestFirst" "[LNestedfare$Product;" ∈ wsX5_worthWithMore := List.mem_of_getElem? (i := 2) rfl
theorem kX5_worthWithMore_41 : Cond.fieldLink RX5 31 "Nestedfare" "demand" "LNestedfare$Demand;" ∈ wsX5_worthWithMore := List.mem_of_getElem? (i := 1) rfl
theorem kX5_worthWithMore_122 : Cond.fieldLink RX5 31 "Nestedfare" "demand" "LNestedfare$Demand;" ∈ wsX5_worthWithMore := List.mem_of_getElem? (i := 1) rfl
theorem fX5_worthWithMore_5 : ∀ w ∈ wsX50, w ∈ wsX5_worthWithMore := fun w h => (List.mem_cons_of_mem _ (List.mem_append_left _ (List.mem_append_left _ (List.mem_append_left _ (List.mem_append_left _ (List.mem_append_right _ h))))))
theorem hdX5_worthWithMore : yX5_worthWithMore.cls = RX5 ∧ yX5_worthWithMore.cls ≠ "java/lang/invoke/MethodHandle" ∧ yX5_worthWithMore.cls ≠ "java/lang/invoke/VarHandle" ∧ (parseMethodDescriptor yX5_worthWithMore.desc).map (fun d => d.parameters.length) = some 3 := by decide +kernel
