theorem co_objectInit : Cond.code Lib.objectInit ⟨#[0xb1]⟩ 1 none ∈ TB := tb_at 54 (by decide +kernel) (by decide +kernel)
set_option maxHeartbeats 4000000 in
set_option maxRecDepth 100000 in
theorem n_X10 (l : Launch) (D : va_G) (cy : Nat → ClassId) (h0 sz : Nat)  : CC l yX10_init cX10_init 1 (rmC 1 1 400 12) D cy [(h0, .inr (10, [.null, .int 0]))] sz [.ref h0] 1 400 (fun u => [(h0, .inr (10, [.ref (u 0), .int 0])), ((u 0), .inl (cy 0, 400, .inl (fun _ => 0)))]) := by
  refine n_of (lv := [(0, .ref h0)]) rfl (Nat.le_of_ble_eq_true rfl) rfl rfl ?_
  intro p e s m args below meth c ls E hsz h hA hr hk hin hl
  have hx := E.1
  have hb := E.2.1
  refine lv_aload_n hx hb dX10_init_0 rfl (lv_at hl 0 rfl) ?_
  refine W.objInit hx hb E.2.2.2.1 (E.2.2.2.2.1 _ ml_X10_3) (E.2.2.2.2.1 _ im_java_lang_Object__init____V) (E.2.2.2.2.1 _ co_objectInit) rfl (by rw [E.2.2.1]; exact hl.1) rfl dX10_init_1 (Nat.le_of_ble_eq_true rfl) (Nat.le_of_ble_eq_true rfl) ?_
  refine W.eq (g2 := F0 m 4 ls []) rfl ?_
  refine lv_aload_n hx hb dX10_init_4 rfl (lv_at hl 0 rfl) ?_
  refine lv_sipush (v := 400) hx hb dX10_init_5 (by decide) ?_
  refine r_newa E h hA (atype := .byte) (ty := .byte) (N := 400) (k := 0) rfl rfl ac_byte rfl (fun _ _ => rfl) (by decide) (by decide) (by decide) (Nat.le_of_ble_eq_true rfl) (Nat.le_of_ble_eq_true rfl) dX10_init_8 (fun q8 H h => ?_)
  replace h : HW D _ s [(h0, .inr (10, [.null, .int 0])), (q8, .inl (cy 0, 400, .inl (fun _ => 0)))] H _ := h
  refine r_putF E hin h 0 (q0 := 0) (ty := .array .byte) rfl rfl fw_X10 tyX10_ok nmX10 (by decide) fl_X10_9 rfl rfl (by decide +kernel) rfl rfl (Nat.le_of_ble_eq_true rfl) (ws' := [(h0, .inr (10, [.ref q8, .int 0])), (q8, .inl (cy 0, 400, .inl (fun _ => 0)))]) rfl dX10_init_10 (fun H locs h => ?_)
  exact n_ret E h hr hk (fun k => [q8].getD k 0) rfl dX10_init_13

set_option maxHeartbeats 4000000 in
set_option maxRecDepth 100000 in
theorem n_X4 (l : Launch) (D : va_G) (cy : Nat → ClassId) (h0 sz : Nat)  : CC l yX4_init cX4_init 1 (rmC 1 5 128 12) D cy [(h0, .inr (4, [.null, .null, .null, .null, .null, .int 0]))] sz [.ref h0] 5 128 (fun u => [(h0, .inr (4, [.ref (u 0), .ref (u 1), .ref (u 2), .ref (u 3), .ref (u 4), .int 0])), ((u 0), .inl (cy 1, 30, .inl (fun _ => 0))), ((u 1), .inl (cy 1, 30, .inl (fun _ => 0))), ((u 2), .inl (cy 1, 30, .inl (fun _ => 0))), ((u 3), .inl (cy 1, 30, .inl (fun _ => 0))), ((u 4), .inl (cy 1, 8, .inl (fun _ => 0)))]) := by
  refine n_of (lv := [(0, .ref h0)]) rfl (Nat.le_of_ble_eq_true rfl) rfl rfl ?_
  intro p e s m args below meth c ls E hsz h hA hr hk hin hl
  have hx := E.1
  have hb := E.2.1
  refine lv_aload_n hx hb dX4_init_0 rfl (lv_at hl 0 rfl) ?_
  refine W.objInit hx hb E.2.2.2.1 (E.2.2.2.2.1 _ ml_X4_3) (E.2.2.2.2.1 _ im_java_lang_Object__init____V) (E.2.2.2.2.1 _ co_objectInit) rfl (by rw [E.2.2.1]; exact hl.1) rfl dX4_init_1 (Nat.le_of_ble_eq_true rfl) (Nat.le_of_ble_eq_true rfl) ?_
  refine W.eq (g2 := F0 m 4 ls []) rfl ?_
  refine lv_aload_n hx hb dX4_init_4 rfl (lv_at hl 0 rfl) ?_
  refine lv_bipush (v := 30) hx hb dX4_init_5 (by decide) ?_
  refine r_newa E h hA (atype := .int) (ty := .int) (N := 30) (k := 1) rfl rfl ac_int rfl (fun _ _ => rfl) (by decide) (by decide) (by decide) (Nat.le_of_ble_eq_true rfl) (Nat.le_of_ble_eq_true rfl) dX4_init_7 (fun q7 H h => ?_)
  replace h : HW D _ s [(h0, .inr (4, [.null, .null, .null, .null, .null, .int 0])), (q7, .inl (cy 1, 30, .inl (fun _ => 0)))] H _ := h
  refine r_putF E hin h 0 (q0 := 0) (ty := .array .int) rfl rfl fw_X4 tyX4_ok nmX4 (by decide) fl_X4_9 rfl rfl (by decide +kernel) rfl rfl (Nat.le_of_ble_eq_true rfl) (ws' := [(h0, .inr (4, [.ref q7, .null, .null, .null, .null, .int 0])), (q7, .inl (cy 1, 30, .inl (fun _ => 0)))]) rfl dX4_init_9 (fun H locs h => ?_)
  refine lv_aload_n hx hb dX4_init_12 rfl (lv_at hl 0 rfl) ?_
  refine lv_bipush (v := 30) hx hb dX4_init_13 (by decide) ?_
  refine r_newa E h hA (atype := .int) (ty := .int) (N := 30) (k := 1) rfl rfl ac_int rfl (fun _ _ => rfl) (by decide) (by decide) (by decide) (Nat.le_of_ble_eq_true rfl) (Nat.le_of_ble_eq_true rfl) dX4_init_15 (fun q15 H h => ?_)
  replace h : HW D _ s [(h0, .inr (4, [.ref q7, .null, .null, .null, .null, .int 0])), (q7, .inl (cy 1, 30, .inl (fun _ => 0))), (q15, .inl (cy 1, 30, .inl (fun _ => 0)))] H _ := h
  refine r_putF E hin h 1 (q0 := 0) (ty := .array .int) rfl rfl fw_X4 tyX4_ok nmX4 (by decide) fl_X4_15 rfl rfl (by decide +kernel) rfl rfl (Nat.le_of_ble_eq_true rfl) (ws' := [(h0, .inr (4, [.ref q7, .ref q15, .null, .null, .null, .int 0])), (q7, .inl (cy 1, 30, .inl (fun _ => 0))), (q15, .inl (cy 1, 30, .inl (fun _ => 0)))]) rfl dX4_init_17 (fun H locs h => ?_)
  refine lv_aload_n hx hb dX4_init_20 rfl (lv_at hl 0 rfl) ?_
  refine lv_bipush (v := 30) hx hb dX4_init_21 (by decide) ?_
  refine r_newa E h hA (atype := .int) (ty := .int) (N := 30) (k := 1) rfl rfl ac_int rfl (fun _ _ => rfl) (by decide) (by decide) (by decide) (Nat.le_of_ble_eq_true rfl) (Nat.le_of_ble_eq_true rfl) dX4_init_23 (fun q23 H h => ?_)
  replace h : HW D _ s [(h0, .inr (4, [.ref q7, .ref q15, .null, .null, .null, .int 0])), (q7, .inl (cy 1, 30, .inl (fun _ => 0))), (q15, .inl (cy 1, 30, .inl (fun _ => 0))), (q23, .inl (cy 1, 30, .inl (fun _ => 0)))] H _ := h
  refine r_putF E hin h 2 (q0 := 0) (ty := .array .int) rfl rfl fw_X4 tyX4_ok nmX4 (by decide) fl_X4_18 rfl rfl (by decide +kernel) rfl rfl (Nat.le_of_ble_eq_true rfl) (ws' := [(h0, .inr (4, [.ref q7, .ref q15, .ref q23, .null, .null, .int 0])), (q7, .inl (cy 1, 30, .inl (fun _ => 0))), (q15, .inl (cy 1, 30, .inl (fun _ => 0))), (q23, .inl (cy 1, 30, .inl (fun _ => 0)))]) rfl dX4_init_25 (fun H locs h => ?_)
  refine lv_aload_n hx hb dX4_init_28 rfl (lv_at hl 0 rfl) ?_
  refine lv_bipush (v := 30) hx hb dX4_init_29 (by decide) ?_
  refine r_newa E h hA (atype := .int) (ty := .int) (N := 30) (k := 1) rfl rfl ac_int rfl (fun _ _ => rfl) (by decide) (by decide) (by decide) (Nat.le_of_ble_eq_true rfl) (Nat.le_of_ble_eq_true rfl) dX4_init_31 (fun q31 H h => ?_)
  replace h : HW D _ s [(h0, .inr (4, [.ref q7, .ref q15, .ref q23, .null, .null, .int 0])), (q7, .inl (cy 1, 30, .inl (fun _ => 0))), (q15, .inl (cy 1, 30, .inl (fun _ => 0))), (q23, .inl (cy 1, 30, .inl (fun _ => 0))), (q31, .inl (cy 1, 30, .inl (fun _ => 0)))] H _ := h
  refine r_putF E hin h 3 (q0 := 0) (ty := .array .int) rfl rfl fw_X4 tyX4_ok nmX4 (by decide) fl_X4_21 rfl rfl (by decide +kernel) rfl rfl (Nat.le_of_ble_eq_true rfl) (ws' := [(h0, .inr (4, [.ref q7, .ref q15, .ref q23, .ref q31, .null, .int 0])), (q7, .inl (cy 1, 30, .inl (fun _ => 0))), (q15, .inl (cy 1, 30, .inl (fun _ => 0))), (q23, .inl (cy 1, 30, .inl (fun _ => 0))), (q31, .inl (cy 1, 30, .inl (fun _ => 0)))]) rfl dX4_init_33 (fun H locs h => ?_)
  refine lv_aload_n hx hb dX4_init_36 rfl (lv_at hl 0 rfl) ?_
  refine lv_bipush (v := 8) hx hb dX4_init_37 (by decide) ?_
  refine r_newa E h hA (atype := .int) (ty := .int) (N := 8) (k := 1) rfl rfl ac_int rfl (fun _ _ => rfl) (by decide) (by decide) (by decide) (Nat.le_of_ble_eq_true rfl) (Nat.le_of_ble_eq_true rfl) dX4_init_39 (fun q39 H h => ?_)
  replace h : HW D _ s [(h0, .inr (4, [.ref q7, .ref q15, .ref q23, .ref q31, .null, .int 0])), (q7, .inl (cy 1, 30, .inl (fun _ => 0))), (q15, .inl (cy 1, 30, .inl (fun _ => 0))), (q23, .inl (cy 1, 30, .inl (fun _ => 0))), (q31, .inl (cy 1, 30, .inl (fun _ => 0))), (q39, .inl (cy 1, 8, .inl (fun _ => 0)))] H _ := h
  refine r_putF E hin h 4 (q0 := 0) (ty := .array .int) rfl rfl fw_X4 tyX4_ok nmX4 (by decide) fl_X4_24 rfl rfl (by decide +kernel) rfl rfl (Nat.le_of_ble_eq_true rfl) (ws' := [(h0, .inr (4, [.ref q7, .ref q15, .ref q23, .ref q31, .ref q39, .int 0])), (q7, .inl (cy 1, 30, .inl (fun _ => 0))), (q15, .inl (cy 1, 30, .inl (fun _ => 0))), (q23, .inl (cy 1, 30, .inl (fun _ => 0))), (q31, .inl (cy 1, 30, .inl (fun _ => 0))), (q39, .inl (cy 1, 8, .inl (fun _ => 0)))]) rfl dX4_init_41 (fun H locs h => ?_)
  exact n_ret E h hr hk (fun k => [q7, q15, q23, q31, q39].getD k 0) rfl dX4_init_44

set_option maxHeartbeats 4000000 in
set_option maxRecDepth 100000 in
theorem n_X1 (l : Launch) (D : va_G) (cy : Nat → ClassId) (h0 sz : Nat)  : CC l yX1_init cX1_init 1 (rmC 1 4 220 12) D cy [(h0, .inr (1, [.null, .null, .null, .null, .int 0]))] sz [.ref h0] 4 220 (fun u => [(h0, .inr (1, [.ref (u 0), .ref (u 1), .ref (u 2), .ref (u 3), .int 0])), ((u 0), .inl (cy 1, 60, .inl (fun _ => 0))), ((u 1), .inl (cy 1, 60, .inl (fun _ => 0))), ((u 2), .inl (cy 1, 60, .inl (fun _ => 0))), ((u 3), .inl (cy 1, 40, .inl (fun _ => 0)))]) := by
  refine n_of (lv := [(0, .ref h0)]) rfl (Nat.le_of_ble_eq_true rfl) rfl rfl ?_
  intro p e s m args below meth c ls E hsz h hA hr hk hin hl
  have hx := E.1
  have hb := E.2.1
  refine lv_aload_n hx hb dX1_init_0 rfl (lv_at hl 0 rfl) ?_
  refine W.objInit hx hb E.2.2.2.1 (E.2.2.2.2.1 _ ml_X1_3) (E.2.2.2.2.1 _ im_java_lang_Object__init____V) (E.2.2.2.2.1 _ co_objectInit) rfl (by rw [E.2.2.1]; exact hl.1) rfl dX1_init_1 (Nat.le_of_ble_eq_true rfl) (Nat.le_of_ble_eq_true rfl) ?_
  refine W.eq (g2 := F0 m 4 ls []) rfl ?_
  refine lv_aload_n hx hb dX1_init_4 rfl (lv_at hl 0 rfl) ?_
  refine lv_bipush (v := 60) hx hb dX1_init_5 (by decide) ?_
  refine r_newa E h hA (atype := .int) (ty := .int) (N := 60) (k := 1) rfl rfl ac_int rfl (fun _ _ => rfl) (by decide) (by decide) (by decide) (Nat.le_of_ble_eq_true rfl) (Nat.le_of_ble_eq_true rfl) dX1_init_7 (fun q7 H h => ?_)
  replace h : HW D _ s [(h0, .inr (1, [.null, .null, .null, .null, .int 0])), (q7, .inl (cy 1, 60, .inl (fun _ => 0)))] H _ := h
  refine r_putF E hin h 0 (q0 := 0) (ty := .array .int) rfl rfl fw_X1 tyX1_ok nmX1 (by decide) fl_X1_9 rfl rfl (by decide +kernel) rfl rfl (Nat.le_of_ble_eq_true rfl) (ws' := [(h0, .inr (1, [.ref q7, .null, .null, .null, .int 0])), (q7, .inl (cy 1, 60, .inl (fun _ => 0)))]) rfl dX1_init_9 (fun H locs h => ?_)
  refine lv_aload_n hx hb dX1_init_12 rfl (lv_at hl 0 rfl) ?_
  refine lv_bipush (v := 60) hx hb dX1_init_13 (by decide) ?_
  refine r_newa E h hA (atype := .int) (ty := .int) (N := 60) (k := 1) rfl rfl ac_int rfl (fun _ _ => rfl) (by decide) (by decide) (by decide) (Nat.le_of_ble_eq_true rfl) (Nat.le_of_ble_eq_true rfl) dX1_init_15 (fun q15 H h => ?_)
  replace h : HW D _ s [(h0, .inr (1, [.ref q7, .null, .null, .null, .int 0])), (q7, .inl (cy 1, 60, .inl (fun _ => 0))), (q15, .inl (cy 1, 60, .inl (fun _ => 0)))] H _ := h
  refine r_putF E hin h 1 (q0 := 0) (ty := .array .int) rfl rfl fw_X1 tyX1_ok nmX1 (by decide) fl_X1_15 rfl rfl (by decide +kernel) rfl rfl (Nat.le_of_ble_eq_true rfl) (ws' := [(h0, .inr (1, [.ref q7, .ref q15, .null, .null, .int 0])), (q7, .inl (cy 1, 60, .inl (fun _ => 0))), (q15, .inl (cy 1, 60, .inl (fun _ => 0)))]) rfl dX1_init_17 (fun H locs h => ?_)
  refine lv_aload_n hx hb dX1_init_20 rfl (lv_at hl 0 rfl) ?_
  refine lv_bipush (v := 60) hx hb dX1_init_21 (by decide) ?_
  refine r_newa E h hA (atype := .int) (ty := .int) (N := 60) (k := 1) rfl rfl ac_int rfl (fun _ _ => rfl) (by decide) (by decide) (by decide) (Nat.le_of_ble_eq_true rfl) (Nat.le_of_ble_eq_true rfl) dX1_init_23 (fun q23 H h => ?_)
  replace h : HW D _ s [(h0, .inr (1, [.ref q7, .ref q15, .null, .null, .int 0])), (q7, .inl (cy 1, 60, .inl (fun _ => 0))), (q15, .inl (cy 1, 60, .inl (fun _ => 0))), (q23, .inl (cy 1, 60, .inl (fun _ => 0)))] H _ := h
  refine r_putF E hin h 2 (q0 := 0) (ty := .array .int) rfl rfl fw_X1 tyX1_ok nmX1 (by decide) fl_X1_18 rfl rfl (by decide +kernel) rfl rfl (Nat.le_of_ble_eq_true rfl) (ws' := [(h0, .inr (1, [.ref q7, .ref q15, .ref q23, .null, .int 0])), (q7, .inl (cy 1, 60, .inl (fun _ => 0))), (q15, .inl (cy 1, 60, .inl (fun _ => 0))), (q23, .inl (cy 1, 60, .inl (fun _ => 0)))]) rfl dX1_init_25 (fun H locs h => ?_)
  refine lv_aload_n hx hb dX1_init_28 rfl (lv_at hl 0 rfl) ?_
  refine lv_bipush (v := 40) hx hb dX1_init_29 (by decide) ?_
  refine r_newa E h hA (atype := .int) (ty := .int) (N := 40) (k := 1) rfl rfl ac_int rfl (fun _ _ => rfl) (by decide) (by decide) (by decide) (Nat.le_of_ble_eq_true rfl) (Nat.le_of_ble_eq_true rfl) dX1_init_31 (fun q31 H h => ?_)
  replace h : HW D _ s [(h0, .inr (1, [.ref q7, .ref q15, .ref q23, .null, .int 0])), (q7, .inl (cy 1, 60, .inl (fun _ => 0))), (q15, .inl (cy 1, 60, .inl (fun _ => 0))), (q23, .inl (cy 1, 60, .inl (fun _ => 0))), (q31, .inl (cy 1, 40, .inl (fun _ => 0)))] H _ := h
  refine r_putF E hin h 3 (q0 := 0) (ty := .array .int) rfl rfl fw_X1 tyX1_ok nmX1 (by decide) fl_X1_21 rfl rfl (by decide +kernel) rfl rfl (Nat.le_of_ble_eq_true rfl) (ws' := [(h0, .inr (1, [.ref q7, .ref q15, .ref q23, .ref q31, .int 0])), (q7, .inl (cy 1, 60, .inl (fun _ => 0))), (q15, .inl (cy 1, 60, .inl (fun _ => 0))), (q23, .inl (cy 1, 60, .inl (fun _ => 0))), (q31, .inl (cy 1, 40, .inl (fun _ => 0)))]) rfl dX1_init_33 (fun H locs h => ?_)
  exact n_ret E h hr hk (fun k => [q7, q15, q23, q31].getD k 0) rfl dX1_init_36

set_option maxHeartbeats 4000000 in
set_option maxRecDepth 100000 in
theorem n_X9 (l : Launch) (D : va_G) (cy : Nat → ClassId) (h0 sz : Nat)  : CC l yX9_init cX9_init 1 (rmC 1 5 188 12) D cy [(h0, .inr (9, [.null, .null, .null, .null, .null, .int 0, .int 0]))] sz [.ref h0] 5 188 (fun u => [(h0, .inr (9, [.ref (u 0), .ref (u 1), .ref (u 2), .ref (u 3), .ref (u 4), .int 0, .int 0])), ((u 0), .inl (cy 1, 4, .inl (fun _ => 0))), ((u 1), .inl (cy 1, 60, .inl (fun _ => 0))), ((u 2), .inl (cy 1, 60, .inl (fun _ => 0))), ((u 3), .inl (cy 1, 60, .inl (fun _ => 0))), ((u 4), .inl (cy 1, 4, .inl (fun _ => 0)))]) := by
  refine n_of (lv := [(0, .ref h0)]) rfl (Nat.le_of_ble_eq_true rfl) rfl rfl ?_
  intro p e s m args below meth c ls E hsz h hA hr hk hin hl
  have hx := E.1
  have hb := E.2.1
  refine lv_aload_n hx hb dX9_init_0 rfl (lv_at hl 0 rfl) ?_
  refine W.objInit hx hb E.2.2.2.1 (E.2.2.2.2.1 _ ml_X9_3) (E.2.2.2.2.1 _ im_java_lang_Object__init____V) (E.2.2.2.2.1 _ co_objectInit) rfl (by rw [E.2.2.1]; exact hl.1) rfl dX9_init_1 (Nat.le_of_ble_eq_true rfl) (Nat.le_of_ble_eq_true rfl) ?_
  refine W.eq (g2 := F0 m 4 ls []) rfl ?_
  refine lv_aload_n hx hb dX9_init_4 rfl (lv_at hl 0 rfl) ?_
  refine lv_iconst (v := 4) hx hb dX9_init_5 (by decide) ?_
  refine r_newa E h hA (atype := .int) (ty := .int) (N := 4) (k := 1) rfl rfl ac_int rfl (fun _ _ => rfl) (by decide) (by decide) (by decide) (Nat.le_of_ble_eq_true rfl) (Nat.le_of_ble_eq_true rfl) dX9_init_6 (fun q6 H h => ?_)
  replace h : HW D _ s [(h0, .inr (9, [.null, .null, .null, .null, .null, .int 0, .int 0])), (q6, .inl (cy 1, 4, .inl (fun _ => 0)))] H _ := h
  refine r_putF E hin h 0 (q0 := 0) (ty := .array .int) rfl rfl fw_X9 tyX9_ok nmX9 (by decide) fl_X9_9 rfl rfl (by decide +kernel) rfl rfl (Nat.le_of_ble_eq_true rfl) (ws' := [(h0, .inr (9, [.ref q6, .null, .null, .null, .null, .int 0, .int 0])), (q6, .inl (cy 1, 4, .inl (fun _ => 0)))]) rfl dX9_init_8 (fun H locs h => ?_)
  refine lv_aload_n hx hb dX9_init_11 rfl (lv_at hl 0 rfl) ?_
  refine lv_bipush (v := 60) hx hb dX9_init_12 (by decide) ?_
  refine r_newa E h hA (atype := .int) (ty := .int) (N := 60) (k := 1) rfl rfl ac_int rfl (fun _ _ => rfl) (by decide) (by decide) (by decide) (Nat.le_of_ble_eq_true rfl) (Nat.le_of_ble_eq_true rfl) dX9_init_14 (fun q14 H h => ?_)
  replace h : HW D _ s [(h0, .inr (9, [.ref q6, .null, .null, .null, .null, .int 0, .int 0])), (q6, .inl (cy 1, 4, .inl (fun _ => 0))), (q14, .inl (cy 1, 60, .inl (fun _ => 0)))] H _ := h
  refine r_putF E hin h 1 (q0 := 0) (ty := .array .int) rfl rfl fw_X9 tyX9_ok nmX9 (by decide) fl_X9_15 rfl rfl (by decide +kernel) rfl rfl (Nat.le_of_ble_eq_true rfl) (ws' := [(h0, .inr (9, [.ref q6, .ref q14, .null, .null, .null, .int 0, .int 0])), (q6, .inl (cy 1, 4, .inl (fun _ => 0))), (q14, .inl (cy 1, 60, .inl (fun _ => 0)))]) rfl dX9_init_16 (fun H locs h => ?_)
  refine lv_aload_n hx hb dX9_init_19 rfl (lv_at hl 0 rfl) ?_
  refine lv_bipush (v := 60) hx hb dX9_init_20 (by decide) ?_
  refine r_newa E h hA (atype := .int) (ty := .int) (N := 60) (k := 1) rfl rfl ac_int rfl (fun _ _ => rfl) (by decide) (by decide) (by decide) (Nat.le_of_ble_eq_true rfl) (Nat.le_of_ble_eq_true rfl) dX9_init_22 (fun q22 H h => ?_)
  replace h : HW D _ s [(h0, .inr (9, [.ref q6, .ref q14, .null, .null, .null, .int 0, .int 0])), (q6, .inl (cy 1, 4, .inl (fun _ => 0))), (q14, .inl (cy 1, 60, .inl (fun _ => 0))), (q22, .inl (cy 1, 60, .inl (fun _ => 0)))] H _ := h
  refine r_putF E hin h 2 (q0 := 0) (ty := .array .int) rfl rfl fw_X9 tyX9_ok nmX9 (by decide) fl_X9_18 rfl rfl (by decide +kernel) rfl rfl (Nat.le_of_ble_eq_true rfl) (ws' := [(h0, .inr (9, [.ref q6, .ref q14, .ref q22, .null, .null, .int 0, .int 0])), (q6, .inl (cy 1, 4, .inl (fun _ => 0))), (q14, .inl (cy 1, 60, .inl (fun _ => 0))), (q22, .inl (cy 1, 60, .inl (fun _ => 0)))]) rfl dX9_init_24 (fun H locs h => ?_)
  refine lv_aload_n hx hb dX9_init_27 rfl (lv_at hl 0 rfl) ?_
  refine lv_bipush (v := 60) hx hb dX9_init_28 (by decide) ?_
  refine r_newa E h hA (atype := .int) (ty := .int) (N := 60) (k := 1) rfl rfl ac_int rfl (fun _ _ => rfl) (by decide) (by decide) (by decide) (Nat.le_of_ble_eq_true rfl) (Nat.le_of_ble_eq_true rfl) dX9_init_30 (fun q30 H h => ?_)
  replace h : HW D _ s [(h0, .inr (9, [.ref q6, .ref q14, .ref q22, .null, .null, .int 0, .int 0])), (q6, .inl (cy 1, 4, .inl (fun _ => 0))), (q14, .inl (cy 1, 60, .inl (fun _ => 0))), (q22, .inl (cy 1, 60, .inl (fun _ => 0))), (q30, .inl (cy 1, 60, .inl (fun _ => 0)))] H _ := h
  refine r_putF E hin h 3 (q0 := 0) (ty := .array .int) rfl rfl fw_X9 tyX9_ok nmX9 (by decide) fl_X9_21 rfl rfl (by decide +kernel) rfl rfl (Nat.le_of_ble_eq_true rfl) (ws' := [(h0, .inr (9, [.ref q6, .ref q14, .ref q22, .ref q30, .null, .int 0, .int 0])), (q6, .inl (cy 1, 4, .inl (fun _ => 0))), (q14, .inl (cy 1, 60, .inl (fun _ => 0))), (q22, .inl (cy 1, 60, .inl (fun _ => 0))), (q30, .inl (cy 1, 60, .inl (fun _ => 0)))]) rfl dX9_init_32 (fun H locs h => ?_)
  refine lv_aload_n hx hb dX9_init_35 rfl (lv_at hl 0 rfl) ?_
  refine lv_iconst (v := 4) hx hb dX9_init_36 (by decide) ?_
  refine r_newa E h hA (atype := .int) (ty := .int) (N := 4) (k := 1) rfl rfl ac_int rfl (fun _ _ => rfl) (by decide) (by decide) (by decide) (Nat.le_of_ble_eq_true rfl) (Nat.le_of_ble_eq_true rfl) dX9_init_37 (fun q37 H h => ?_)
  replace h : HW D _ s [(h0, .inr (9, [.ref q6, .ref q14, .ref q22, .ref q30, .null, .int 0, .int 0])), (q6, .inl (cy 1, 4, .inl (fun _ => 0))), (q14, .inl (cy 1, 60, .inl (fun _ => 0))), (q22, .inl (cy 1, 60, .inl (fun _ => 0))), (q30, .inl (cy 1, 60, .inl (fun _ => 0))), (q37, .inl (cy 1, 4, .inl (fun _ => 0)))] H _ := h
  refine r_putF E hin h 4 (q0 := 0) (ty := .array .int) rfl rfl fw_X9 tyX9_ok nmX9 (by decide) fl_X9_24 rfl rfl (by decide +kernel) rfl rfl (Nat.le_of_ble_eq_true rfl) (ws' := [(h0, .inr (9, [.ref q6, .ref q14, .ref q22, .ref q30, .ref q37, .int 0, .int 0])), (q6, .inl (cy 1, 4, .inl (fun _ => 0))), (q14, .inl (cy 1, 60, .inl (fun _ => 0))), (q22, .inl (cy 1, 60, .inl (fun _ => 0))), (q30, .inl (cy 1, 60, .inl (fun _ => 0))), (q37, .inl (cy 1, 4, .inl (fun _ => 0)))]) rfl dX9_init_39 (fun H locs h => ?_)
  exact n_ret E h hr hk (fun k => [q6, q14, q22, q30, q37].getD k 0) rfl dX9_init_42

set_option maxHeartbeats 4000000 in
set_option maxRecDepth 100000 in
theorem n_X7 (l : Launch) (D : va_G) (cy : Nat → ClassId) (h0 sz : Nat)  : CC l yX7_init cX7_init 1 (rmC 1 3 240 12) D cy [(h0, .inr (7, [.null, .null, .null, .int 0, .int 0]))] sz [.ref h0] 3 240 (fun u => [(h0, .inr (7, [.ref (u 0), .ref (u 1), .ref (u 2), .int 0, .int 0])), ((u 0), .inl (cy 1, 80, .inl (fun _ => 0))), ((u 1), .inl (cy 1, 80, .inl (fun _ => 0))), ((u 2), .inl (cy 1, 80, .inl (fun _ => 0)))]) := by
  refine n_of (lv := [(0, .ref h0)]) rfl (Nat.le_of_ble_eq_true rfl) rfl rfl ?_
  intro p e s m args below meth c ls E hsz h hA hr hk hin hl
  have hx := E.1
  have hb := E.2.1
  refine lv_aload_n hx hb dX7_init_0 rfl (lv_at hl 0 rfl) ?_
  refine W.objInit hx hb E.2.2.2.1 (E.2.2.2.2.1 _ ml_X7_3) (E.2.2.2.2.1 _ im_java_lang_Object__init____V) (E.2.2.2.2.1 _ co_objectInit) rfl (by rw [E.2.2.1]; exact hl.1) rfl dX7_init_1 (Nat.le_of_ble_eq_true rfl) (Nat.le_of_ble_eq_true rfl) ?_
  refine W.eq (g2 := F0 m 4 ls []) rfl ?_
  refine lv_aload_n hx hb dX7_init_4 rfl (lv_at hl 0 rfl) ?_
  refine lv_bipush (v := 80) hx hb dX7_init_5 (by decide) ?_
  refine r_newa E h hA (atype := .int) (ty := .int) (N := 80) (k := 1) rfl rfl ac_int rfl (fun _ _ => rfl) (by decide) (by decide) (by decide) (Nat.le_of_ble_eq_true rfl) (Nat.le_of_ble_eq_true rfl) dX7_init_7 (fun q7 H h => ?_)
  replace h : HW D _ s [(h0, .inr (7, [.null, .null, .null, .int 0, .int 0])), (q7, .inl (cy 1, 80, .inl (fun _ => 0)))] H _ := h
  refine r_putF E hin h 0 (q0 := 0) (ty := .array .int) rfl rfl fw_X7 tyX7_ok nmX7 (by decide) fl_X7_9 rfl rfl (by decide +kernel) rfl rfl (Nat.le_of_ble_eq_true rfl) (ws' := [(h0, .inr (7, [.ref q7, .null, .null, .int 0, .int 0])), (q7, .inl (cy 1, 80, .inl (fun _ => 0)))]) rfl dX7_init_9 (fun H locs h => ?_)
  refine lv_aload_n hx hb dX7_init_12 rfl (lv_at hl 0 rfl) ?_
  refine lv_bipush (v := 80) hx hb dX7_init_13 (by decide) ?_
  refine r_newa E h hA (atype := .int) (ty := .int) (N := 80) (k := 1) rfl rfl ac_int rfl (fun _ _ => rfl) (by decide) (by decide) (by decide) (Nat.le_of_ble_eq_true rfl) (Nat.le_of_ble_eq_true rfl) dX7_init_15 (fun q15 H h => ?_)
  replace h : HW D _ s [(h0, .inr (7, [.ref q7, .null, .null, .int 0, .int 0])), (q7, .inl (cy 1, 80, .inl (fun _ => 0))), (q15, .inl (cy 1, 80, .inl (fun _ => 0)))] H _ := h
  refine r_putF E hin h 1 (q0 := 0) (ty := .array .int) rfl rfl fw_X7 tyX7_ok nmX7 (by decide) fl_X7_15 rfl rfl (by decide +kernel) rfl rfl (Nat.le_of_ble_eq_true rfl) (ws' := [(h0, .inr (7, [.ref q7, .ref q15, .null, .int 0, .int 0])), (q7, .inl (cy 1, 80, .inl (fun _ => 0))), (q15, .inl (cy 1, 80, .inl (fun _ => 0)))]) rfl dX7_init_17 (fun H locs h => ?_)
  refine lv_aload_n hx hb dX7_init_20 rfl (lv_at hl 0 rfl) ?_
  refine lv_bipush (v := 80) hx hb dX7_init_21 (by decide) ?_
  refine r_newa E h hA (atype := .int) (ty := .int) (N := 80) (k := 1) rfl rfl ac_int rfl (fun _ _ => rfl) (by decide) (by decide) (by decide) (Nat.le_of_ble_eq_true rfl) (Nat.le_of_ble_eq_true rfl) dX7_init_23 (fun q23 H h => ?_)
  replace h : HW D _ s [(h0, .inr (7, [.ref q7, .ref q15, .null, .int 0, .int 0])), (q7, .inl (cy 1, 80, .inl (fun _ => 0))), (q15, .inl (cy 1, 80, .inl (fun _ => 0))), (q23, .inl (cy 1, 80, .inl (fun _ => 0)))] H _ := h
  refine r_putF E hin h 2 (q0 := 0) (ty := .array .int) rfl rfl fw_X7 tyX7_ok nmX7 (by decide) fl_X7_18 rfl rfl (by decide +kernel) rfl rfl (Nat.le_of_ble_eq_true rfl) (ws' := [(h0, .inr (7, [.ref q7, .ref q15, .ref q23, .int 0, .int 0])), (q7, .inl (cy 1, 80, .inl (fun _ => 0))), (q15, .inl (cy 1, 80, .inl (fun _ => 0))), (q23, .inl (cy 1, 80, .inl (fun _ => 0)))]) rfl dX7_init_25 (fun H locs h => ?_)
  exact n_ret E h hr hk (fun k => [q7, q15, q23].getD k 0) rfl dX7_init_28

set_option maxHeartbeats 4000000 in
set_option maxRecDepth 100000 in
theorem n_X3_12 (l : Launch) (D : va_G) (cy : Nat → ClassId) (h0 sz : Nat)  : CC l yX3_init cX3_init 2 (rmC 1 2 156 12) D cy [(h0, .inr (3, [.int 0, .null, .null]))] sz [.ref h0, .int 12] 2 156 (fun u => [(h0, .inr (3, [.int 12, .ref (u 1), .ref (u 0)])), ((u 0), .inl (cy 1, 12, .inl (fun _ => 0))), ((u 1), .inl (cy 1, 144, .inl (fun _ => 0)))]) := by
  refine n_of (lv := [(0, .ref h0), (1, .int 12)]) rfl (Nat.le_of_ble_eq_true rfl) rfl rfl ?_
  intro p e s m args below meth c ls E hsz h hA hr hk hin hl
  have hx := E.1
  have hb := E.2.1
  refine lv_aload_n hx hb dX3_init_0 rfl (lv_at hl 0 rfl) ?_
  refine W.objInit hx hb E.2.2.2.1 (E.2.2.2.2.1 _ ml_X3_3) (E.2.2.2.2.1 _ im_java_lang_Object__init____V) (E.2.2.2.2.1 _ co_objectInit) rfl (by rw [E.2.2.1]; exact hl.1) rfl dX3_init_1 (Nat.le_of_ble_eq_true rfl) (Nat.le_of_ble_eq_true rfl) ?_
  refine W.eq (g2 := F0 m 4 ls []) rfl ?_
  refine lv_aload_n hx hb dX3_init_4 rfl (lv_at hl 0 rfl) ?_
  refine lv_bipush (v := 12) hx hb dX3_init_5 (by decide) ?_
  refine r_newa E h hA (atype := .int) (ty := .int) (N := 12) (k := 1) rfl rfl ac_int rfl (fun _ _ => rfl) (by decide) (by decide) (by decide) (Nat.le_of_ble_eq_true rfl) (Nat.le_of_ble_eq_true rfl) dX3_init_7 (fun q7 H h => ?_)
  replace h : HW D _ s [(h0, .inr (3, [.int 0, .null, .null])), (q7, .inl (cy 1, 12, .inl (fun _ => 0)))] H _ := h
  refine r_putF E hin h 2 (q0 := 0) (ty := .array .int) rfl rfl fw_X3 tyX3_ok nmX3 (by decide) fl_X3_9 rfl rfl (by decide +kernel) rfl rfl (Nat.le_of_ble_eq_true rfl) (ws' := [(h0, .inr (3, [.int 0, .null, .ref q7])), (q7, .inl (cy 1, 12, .inl (fun _ => 0)))]) rfl dX3_init_9 (fun H locs h => ?_)
  refine lv_aload_n hx hb dX3_init_12 rfl (lv_at hl 0 rfl) ?_
  refine lv_iload_n hx hb dX3_init_13 rfl (lv_at hl 1 rfl) ?_
  refine r_putF E hin h 0 (q0 := 0) (ty := .int) rfl rfl fw_X3 tyX3_ok nmX3 (by decide) fl_X3_15 rfl rfl (by decide +kernel) rfl rfl (Nat.le_of_ble_eq_true rfl) (ws' := [(h0, .inr (3, [.int 12, .null, .ref q7])), (q7, .inl (cy 1, 12, .inl (fun _ => 0)))]) rfl dX3_init_14 (fun H locs h => ?_)
  refine lv_aload_n hx hb dX3_init_17 rfl (lv_at hl 0 rfl) ?_
  refine lv_bipush (v := 12) hx hb dX3_init_18 (by decide) ?_
  refine lv_iload_n hx hb dX3_init_20 rfl (lv_at hl 1 rfl) ?_
  refine lv_imul hx hb dX3_init_21 ?_
  have e21 : (12 : Int32) * 12 = 144 := by decide
  rw [e21]
  refine r_newa E h hA (atype := .int) (ty := .int) (N := 144) (k := 1) rfl rfl ac_int rfl (fun _ _ => rfl) (by decide) (by decide) (by decide) (Nat.le_of_ble_eq_true rfl) (Nat.le_of_ble_eq_true rfl) dX3_init_22 (fun q22 H h => ?_)
  replace h : HW D _ s [(h0, .inr (3, [.int 12, .null, .ref q7])), (q7, .inl (cy 1, 12, .inl (fun _ => 0))), (q22, .inl (cy 1, 144, .inl (fun _ => 0)))] H _ := h
  refine r_putF E hin h 1 (q0 := 0) (ty := .array .int) rfl rfl fw_X3 tyX3_ok nmX3 (by decide) fl_X3_19 rfl rfl (by decide +kernel) rfl rfl (Nat.le_of_ble_eq_true rfl) (ws' := [(h0, .inr (3, [.int 12, .ref q22, .ref q7])), (q7, .inl (cy 1, 12, .inl (fun _ => 0))), (q22, .inl (cy 1, 144, .inl (fun _ => 0)))]) rfl dX3_init_24 (fun H locs h => ?_)
  exact n_ret E h hr hk (fun k => [q7, q22].getD k 0) rfl dX3_init_27

set_option maxHeartbeats 4000000 in
set_option maxRecDepth 100000 in
theorem n_X3_80 (l : Launch) (D : va_G) (cy : Nat → ClassId) (h0 sz : Nat)  : CC l yX3_init cX3_init 2 (rmC 1 2 972 12) D cy [(h0, .inr (3, [.int 0, .null, .null]))] sz [.ref h0, .int 80] 2 972 (fun u => [(h0, .inr (3, [.int 80, .ref (u 1), .ref (u 0)])), ((u 0), .inl (cy 1, 12, .inl (fun _ => 0))), ((u 1), .inl (cy 1, 960, .inl (fun _ => 0)))]) := by
  refine n_of (lv := [(0, .ref h0), (1, .int 80)]) rfl (Nat.le_of_ble_eq_true rfl) rfl rfl ?_
  intro p e s m args below meth c ls E hsz h hA hr hk hin hl
  have hx := E.1
  have hb := E.2.1
  refine lv_aload_n hx hb dX3_init_0 rfl (lv_at hl 0 rfl) ?_
  refine W.objInit hx hb E.2.2.2.1 (E.2.2.2.2.1 _ ml_X3_3) (E.2.2.2.2.1 _ im_java_lang_Object__init____V) (E.2.2.2.2.1 _ co_objectInit) rfl (by rw [E.2.2.1]; exact hl.1) rfl dX3_init_1 (Nat.le_of_ble_eq_true rfl) (Nat.le_of_ble_eq_true rfl) ?_
  refine W.eq (g2 := F0 m 4 ls []) rfl ?_
  refine lv_aload_n hx hb dX3_init_4 rfl (lv_at hl 0 rfl) ?_
  refine lv_bipush (v := 12) hx hb dX3_init_5 (by decide) ?_
  refine r_newa E h hA (atype := .int) (ty := .int) (N := 12) (k := 1) rfl rfl ac_int rfl (fun _ _ => rfl) (by decide) (by decide) (by decide) (Nat.le_of_ble_eq_true rfl) (Nat.le_of_ble_eq_true rfl) dX3_init_7 (fun q7 H h => ?_)
  replace h : HW D _ s [(h0, .inr (3, [.int 0, .null, .null])), (q7, .inl (cy 1, 12, .inl (fun _ => 0)))] H _ := h
  refine r_putF E hin h 2 (q0 := 0) (ty := .array .int) rfl rfl fw_X3 tyX3_ok nmX3 (by decide) fl_X3_9 rfl rfl (by decide +kernel) rfl rfl (Nat.le_of_ble_eq_true rfl) (ws' := [(h0, .inr (3, [.int 0, .null, .ref q7])), (q7, .inl (cy 1, 12, .inl (fun _ => 0)))]) rfl dX3_init_9 (fun H locs h => ?_)
  refine lv_aload_n hx hb dX3_init_12 rfl (lv_at hl 0 rfl) ?_
  refine lv_iload_n hx hb dX3_init_13 rfl (lv_at hl 1 rfl) ?_
  refine r_putF E hin h 0 (q0 := 0) (ty := .int) rfl rfl fw_X3 tyX3_ok nmX3 (by decide) fl_X3_15 rfl rfl (by decide +kernel) rfl rfl (Nat.le_of_ble_eq_true rfl) (ws' := [(h0, .inr (3, [.int 80, .null, .ref q7])), (q7, .inl (cy 1, 12, .inl (fun _ => 0)))]) rfl dX3_init_14 (fun H locs h => ?_)
  refine lv_aload_n hx hb dX3_init_17 rfl (lv_at hl 0 rfl) ?_
  refine lv_bipush (v := 12) hx hb dX3_init_18 (by decide) ?_
  refine lv_iload_n hx hb dX3_init_20 rfl (lv_at hl 1 rfl) ?_
  refine lv_imul hx hb dX3_init_21 ?_
  have e21 : (12 : Int32) * 80 = 960 := by decide
  rw [e21]
  refine r_newa E h hA (atype := .int) (ty := .int) (N := 960) (k := 1) rfl rfl ac_int rfl (fun _ _ => rfl) (by decide) (by decide) (by decide) (Nat.le_of_ble_eq_true rfl) (Nat.le_of_ble_eq_true rfl) dX3_init_22 (fun q22 H h => ?_)
  replace h : HW D _ s [(h0, .inr (3, [.int 80, .null, .ref q7])), (q7, .inl (cy 1, 12, .inl (fun _ => 0))), (q22, .inl (cy 1, 960, .inl (fun _ => 0)))] H _ := h
  refine r_putF E hin h 1 (q0 := 0) (ty := .array .int) rfl rfl fw_X3 tyX3_ok nmX3 (by decide) fl_X3_19 rfl rfl (by decide +kernel) rfl rfl (Nat.le_of_ble_eq_true rfl) (ws' := [(h0, .inr (3, [.int 80, .ref q22, .ref q7])), (q7, .inl (cy 1, 12, .inl (fun _ => 0))), (q22, .inl (cy 1, 960, .inl (fun _ => 0)))]) rfl dX3_init_24 (fun H locs h => ?_)
  exact n_ret E h hr hk (fun k => [q7, q22].getD k 0) rfl dX3_init_27

set_option maxHeartbeats 4000000 in
set_option maxRecDepth 100000 in
theorem n_X3_60 (l : Launch) (D : va_G) (cy : Nat → ClassId) (h0 sz : Nat)  : CC l yX3_init cX3_init 2 (rmC 1 2 732 12) D cy [(h0, .inr (3, [.int 0, .null, .null]))] sz [.ref h0, .int 60] 2 732 (fun u => [(h0, .inr (3, [.int 60, .ref (u 1), .ref (u 0)])), ((u 0), .inl (cy 1, 12, .inl (fun _ => 0))), ((u 1), .inl (cy 1, 720, .inl (fun _ => 0)))]) := by
  refine n_of (lv := [(0, .ref h0), (1, .int 60)]) rfl (Nat.le_of_ble_eq_true rfl) rfl rfl ?_
  intro p e s m args below meth c ls E hsz h hA hr hk hin hl
  have hx := E.1
  have hb := E.2.1
  refine lv_aload_n hx hb dX3_init_0 rfl (lv_at hl 0 rfl) ?_
  refine W.objInit hx hb E.2.2.2.1 (E.2.2.2.2.1 _ ml_X3_3) (E.2.2.2.2.1 _ im_java_lang_Object__init____V) (E.2.2.2.2.1 _ co_objectInit) rfl (by rw [E.2.2.1]; exact hl.1) rfl dX3_init_1 (Nat.le_of_ble_eq_true rfl) (Nat.le_of_ble_eq_true rfl) ?_
  refine W.eq (g2 := F0 m 4 ls []) rfl ?_
  refine lv_aload_n hx hb dX3_init_4 rfl (lv_at hl 0 rfl) ?_
  refine lv_bipush (v := 12) hx hb dX3_init_5 (by decide) ?_
  refine r_newa E h hA (atype := .int) (ty := .int) (N := 12) (k := 1) rfl rfl ac_int rfl (fun _ _ => rfl) (by decide) (by decide) (by decide) (Nat.le_of_ble_eq_true rfl) (Nat.le_of_ble_eq_true rfl) dX3_init_7 (fun q7 H h => ?_)
  replace h : HW D _ s [(h0, .inr (3, [.int 0, .null, .null])), (q7, .inl (cy 1, 12, .inl (fun _ => 0)))] H _ := h
  refine r_putF E hin h 2 (q0 := 0) (ty := .array .int) rfl rfl fw_X3 tyX3_ok nmX3 (by decide) fl_X3_9 rfl rfl (by decide +kernel) rfl rfl (Nat.le_of_ble_eq_true rfl) (ws' := [(h0, .inr (3, [.int 0, .null, .ref q7])), (q7, .inl (cy 1, 12, .inl (fun _ => 0)))]) rfl dX3_init_9 (fun H locs h => ?_)
  refine lv_aload_n hx hb dX3_init_12 rfl (lv_at hl 0 rfl) ?_
  refine lv_iload_n hx hb dX3_init_13 rfl (lv_at hl 1 rfl) ?_
  refine r_putF E hin h 0 (q0 := 0) (ty := .int) rfl rfl fw_X3 tyX3_ok nmX3 (by decide) fl_X3_15 rfl rfl (by decide +kernel) rfl rfl (Nat.le_of_ble_eq_true rfl) (ws' := [(h0, .inr (3, [.int 60, .null, .ref q7])), (q7, .inl (cy 1, 12, .inl (fun _ => 0)))]) rfl dX3_init_14 (fun H locs h => ?_)
  refine lv_aload_n hx hb dX3_init_17 rfl (lv_at hl 0 rfl) ?_
  refine lv_bipush (v := 12) hx hb dX3_init_18 (by decide) ?_
  refine lv_iload_n hx hb dX3_init_20 rfl (lv_at hl 1 rfl) ?_
  refine lv_imul hx hb dX3_init_21 ?_
  have e21 : (12 : Int32) * 60 = 720 := by decide
  rw [e21]
  refine r_newa E h hA (atype := .int) (ty := .int) (N := 720) (k := 1) rfl rfl ac_int rfl (fun _ _ => rfl) (by decide) (by decide) (by decide) (Nat.le_of_ble_eq_true rfl) (Nat.le_of_ble_eq_true rfl) dX3_init_22 (fun q22 H h => ?_)
  replace h : HW D _ s [(h0, .inr (3, [.int 60, .null, .ref q7])), (q7, .inl (cy 1, 12, .inl (fun _ => 0))), (q22, .inl (cy 1, 720, .inl (fun _ => 0)))] H _ := h
  refine r_putF E hin h 1 (q0 := 0) (ty := .array .int) rfl rfl fw_X3 tyX3_ok nmX3 (by decide) fl_X3_19 rfl rfl (by decide +kernel) rfl rfl (Nat.le_of_ble_eq_true rfl) (ws' := [(h0, .inr (3, [.int 60, .ref q22, .ref q7])), (q7, .inl (cy 1, 12, .inl (fun _ => 0))), (q22, .inl (cy 1, 720, .inl (fun _ => 0)))]) rfl dX3_init_24 (fun H locs h => ?_)
  exact n_ret E h hr hk (fun k => [q7, q22].getD k 0) rfl dX3_init_27

set_option maxHeartbeats 4000000 in
set_option maxRecDepth 100000 in
theorem n_X3_40 (l : Launch) (D : va_G) (cy : Nat → ClassId) (h0 sz : Nat)  : CC l yX3_init cX3_init 2 (rmC 1 2 492 12) D cy [(h0, .inr (3, [.int 0, .null, .null]))] sz [.ref h0, .int 40] 2 492 (fun u => [(h0, .inr (3, [.int 40, .ref (u 1), .ref (u 0)])), ((u 0), .inl (cy 1, 12, .inl (fun _ => 0))), ((u 1), .inl (cy 1, 480, .inl (fun _ => 0)))]) := by
  refine n_of (lv := [(0, .ref h0), (1, .int 40)]) rfl (Nat.le_of_ble_eq_true rfl) rfl rfl ?_
  intro p e s m args below meth c ls E hsz h hA hr hk hin hl
  have hx := E.1
  have hb := E.2.1
  refine lv_aload_n hx hb dX3_init_0 rfl (lv_at hl 0 rfl) ?_
  refine W.objInit hx hb E.2.2.2.1 (E.2.2.2.2.1 _ ml_X3_3) (E.2.2.2.2.1 _ im_java_lang_Object__init____V) (E.2.2.2.2.1 _ co_objectInit) rfl (by rw [E.2.2.1]; exact hl.1) rfl dX3_init_1 (Nat.le_of_ble_eq_true rfl) (Nat.le_of_ble_eq_true rfl) ?_
  refine W.eq (g2 := F0 m 4 ls []) rfl ?_
  refine lv_aload_n hx hb dX3_init_4 rfl (lv_at hl 0 rfl) ?_
  refine lv_bipush (v := 12) hx hb dX3_init_5 (by decide) ?_
  refine r_newa E h hA (atype := .int) (ty := .int) (N := 12) (k := 1) rfl rfl ac_int rfl (fun _ _ => rfl) (by decide) (by decide) (by decide) (Nat.le_of_ble_eq_true rfl) (Nat.le_of_ble_eq_true rfl) dX3_init_7 (fun q7 H h => ?_)
  replace h : HW D _ s [(h0, .inr (3, [.int 0, .null, .null])), (q7, .inl (cy 1, 12, .inl (fun _ => 0)))] H _ := h
  refine r_putF E hin h 2 (q0 := 0) (ty := .array .int) rfl rfl fw_X3 tyX3_ok nmX3 (by decide) fl_X3_9 rfl rfl (by decide +kernel) rfl rfl (Nat.le_of_ble_eq_true rfl) (ws' := [(h0, .inr (3, [.int 0, .null, .ref q7])), (q7, .inl (cy 1, 12, .inl (fun _ => 0)))]) rfl dX3_init_9 (fun H locs h => ?_)
  refine lv_aload_n hx hb dX3_init_12 rfl (lv_at hl 0 rfl) ?_
  refine lv_iload_n hx hb dX3_init_13 rfl (lv_at hl 1 rfl) ?_
  refine r_putF E hin h 0 (q0 := 0) (ty := .int) rfl rfl fw_X3 tyX3_ok nmX3 (by decide) fl_X3_15 rfl rfl (by decide +kernel) rfl rfl (Nat.le_of_ble_eq_true rfl) (ws' := [(h0, .inr (3, [.int 40, .null, .ref q7])), (q7, .inl (cy 1, 12, .inl (fun _ => 0)))]) rfl dX3_init_14 (fun H locs h => ?_)
  refine lv_aload_n hx hb dX3_init_17 rfl (lv_at hl 0 rfl) ?_
  refine lv_bipush (v := 12) hx hb dX3_init_18 (by decide) ?_
  refine lv_iload_n hx hb dX3_init_20 rfl (lv_at hl 1 rfl) ?_
  refine lv_imul hx hb dX3_init_21 ?_
  have e21 : (12 : Int32) * 40 = 480 := by decide
  rw [e21]
  refine r_newa E h hA (atype := .int) (ty := .int) (N := 480) (k := 1) rfl rfl ac_int rfl (fun _ _ => rfl) (by decide) (by decide) (by decide) (Nat.le_of_ble_eq_true rfl) (Nat.le_of_ble_eq_true rfl) dX3_init_22 (fun q22 H h => ?_)
  replace h : HW D _ s [(h0, .inr (3, [.int 40, .null, .ref q7])), (q7, .inl (cy 1, 12, .inl (fun _ => 0))), (q22, .inl (cy 1, 480, .inl (fun _ => 0)))] H _ := h
  refine r_putF E hin h 1 (q0 := 0) (ty := .array .int) rfl rfl fw_X3 tyX3_ok nmX3 (by decide) fl_X3_19 rfl rfl (by decide +kernel) rfl rfl (Nat.le_of_ble_eq_true rfl) (ws' := [(h0, .inr (3, [.int 40, .ref q22, .ref q7])), (q7, .inl (cy 1, 12, .inl (fun _ => 0))), (q22, .inl (cy 1, 480, .inl (fun _ => 0)))]) rfl dX3_init_24 (fun H locs h => ?_)
  exact n_ret E h hr hk (fun k => [q7, q22].getD k 0) rfl dX3_init_27

set_option maxHeartbeats 4000000 in
set_option maxRecDepth 100000 in
theorem n_X0 (l : Launch) (D : va_G) (cy : Nat → ClassId) (h0 sz : Nat)  : CC l yX0_init cX0_init 1 (rmC 2 6 195 33) D cy [(h0, .inr (0, [.null, .null, .null, .null, .int 0]))] sz [.ref h0] 6 195 (fun u => [(h0, .inr (0, [.ref (u 0), .ref (u 1), .ref (u 2), .ref (u 3), .int 0])), ((u 0), .inl (cy 1, 12, .inl (fun _ => 0))), ((u 1), .inl (cy 1, 12, .inl (fun _ => 0))), ((u 2), .inl (cy 1, 12, .inl (fun _ => 0))), ((u 3), .inr (3, [.int 12, .ref (u 5), .ref (u 4)])), ((u 4), .inl (cy 1, 12, .inl (fun _ => 0))), ((u 5), .inl (cy 1, 144, .inl (fun _ => 0)))]) := by
  refine n_of (lv := [(0, .ref h0)]) rfl (Nat.le_of_ble_eq_true rfl) rfl rfl ?_
  intro p e s m args below meth c ls E hsz h hA hr hk hin hl
  have hx := E.1
  have hb := E.2.1
  refine lv_aload_n hx hb dX0_init_0 rfl (lv_at hl 0 rfl) ?_
  refine W.objInit hx hb E.2.2.2.1 (E.2.2.2.2.1 _ ml_X0_3) (E.2.2.2.2.1 _ im_java_lang_Object__init____V) (E.2.2.2.2.1 _ co_objectInit) rfl (by rw [E.2.2.1]; exact hl.1) rfl dX0_init_1 (Nat.le_of_ble_eq_true rfl) (Nat.le_of_ble_eq_true rfl) ?_
  refine W.eq (g2 := F0 m 4 ls []) rfl ?_
  refine lv_aload_n hx hb dX0_init_4 rfl (lv_at hl 0 rfl) ?_
  refine lv_bipush (v := 12) hx hb dX0_init_5 (by decide) ?_
  refine r_newa E h hA (atype := .int) (ty := .int) (N := 12) (k := 1) rfl rfl ac_int rfl (fun _ _ => rfl) (by decide) (by decide) (by decide) (Nat.le_of_ble_eq_true rfl) (Nat.le_of_ble_eq_true rfl) dX0_init_7 (fun q7 H h => ?_)
  replace h : HW D _ s [(h0, .inr (0, [.null, .null, .null, .null, .int 0])), (q7, .inl (cy 1, 12, .inl (fun _ => 0)))] H _ := h
  refine r_putF E hin h 0 (q0 := 0) (ty := .array .int) rfl rfl fw_X0 tyX0_ok nmX0 (by decide) fl_X0_9 rfl rfl (by decide +kernel) rfl rfl (Nat.le_of_ble_eq_true rfl) (ws' := [(h0, .inr (0, [.ref q7, .null, .null, .null, .int 0])), (q7, .inl (cy 1, 12, .inl (fun _ => 0)))]) rfl dX0_init_9 (fun H locs h => ?_)
  refine lv_aload_n hx hb dX0_init_12 rfl (lv_at hl 0 rfl) ?_
  refine lv_bipush (v := 12) hx hb dX0_init_13 (by decide) ?_
  refine r_newa E h hA (atype := .int) (ty := .int) (N := 12) (k := 1) rfl rfl ac_int rfl (fun _ _ => rfl) (by decide) (by decide) (by decide) (Nat.le_of_ble_eq_true rfl) (Nat.le_of_ble_eq_true rfl) dX0_init_15 (fun q15 H h => ?_)
  replace h : HW D _ s [(h0, .inr (0, [.ref q7, .null, .null, .null, .int 0])), (q7, .inl (cy 1, 12, .inl (fun _ => 0))), (q15, .inl (cy 1, 12, .inl (fun _ => 0)))] H _ := h
  refine r_putF E hin h 1 (q0 := 0) (ty := .array .int) rfl rfl fw_X0 tyX0_ok nmX0 (by decide) fl_X0_15 rfl rfl (by decide +kernel) rfl rfl (Nat.le_of_ble_eq_true rfl) (ws' := [(h0, .inr (0, [.ref q7, .ref q15, .null, .null, .int 0])), (q7, .inl (cy 1, 12, .inl (fun _ => 0))), (q15, .inl (cy 1, 12, .inl (fun _ => 0)))]) rfl dX0_init_17 (fun H locs h => ?_)
  refine lv_aload_n hx hb dX0_init_20 rfl (lv_at hl 0 rfl) ?_
  refine lv_bipush (v := 12) hx hb dX0_init_21 (by decide) ?_
  refine r_newa E h hA (atype := .int) (ty := .int) (N := 12) (k := 1) rfl rfl ac_int rfl (fun _ _ => rfl) (by decide) (by decide) (by decide) (Nat.le_of_ble_eq_true rfl) (Nat.le_of_ble_eq_true rfl) dX0_init_23 (fun q23 H h => ?_)
  replace h : HW D _ s [(h0, .inr (0, [.ref q7, .ref q15, .null, .null, .int 0])), (q7, .inl (cy 1, 12, .inl (fun _ => 0))), (q15, .inl (cy 1, 12, .inl (fun _ => 0))), (q23, .inl (cy 1, 12, .inl (fun _ => 0)))] H _ := h
  refine r_putF E hin h 2 (q0 := 0) (ty := .array .int) rfl rfl fw_X0 tyX0_ok nmX0 (by decide) fl_X0_18 rfl rfl (by decide +kernel) rfl rfl (Nat.le_of_ble_eq_true rfl) (ws' := [(h0, .inr (0, [.ref q7, .ref q15, .ref q23, .null, .int 0])), (q7, .inl (cy 1, 12, .inl (fun _ => 0))), (q15, .inl (cy 1, 12, .inl (fun _ => 0))), (q23, .inl (cy 1, 12, .inl (fun _ => 0)))]) rfl dX0_init_25 (fun H locs h => ?_)
  refine lv_aload_n hx hb dX0_init_28 rfl (lv_at hl 0 rfl) ?_
  refine r_new E h hA (ci := 3) (fs := [.int 0, .null, .null]) fw_X3 tyX3_ok cl_X0_21 is_X3 in_X3 rfl (fun j hj => by rcases (show j = 0 ∨ j = 1 ∨ j = 2 by omega) with rfl | rfl | rfl <;> rfl) (Nat.le_of_ble_eq_true rfl) (Nat.le_of_ble_eq_true rfl) dX0_init_29 (fun q29 H h => ?_)
  replace h : HW D _ s [(h0, .inr (0, [.ref q7, .ref q15, .ref q23, .null, .int 0])), (q7, .inl (cy 1, 12, .inl (fun _ => 0))), (q15, .inl (cy 1, 12, .inl (fun _ => 0))), (q23, .inl (cy 1, 12, .inl (fun _ => 0))), (q29, .inr (3, [.int 0, .null, .null]))] H _ := h
  refine lv_dup hx hb dX0_init_32 rfl ?_
  refine lv_bipush (v := 12) hx hb dX0_init_33 (by decide) ?_
  refine n_call h hA (wc := [(q29, .inr (3, [.int 0, .null, .null]))]) (wr := [(h0, .inr (0, [.ref q7, .ref q15, .ref q23, .null, .int 0])), (q7, .inl (cy 1, 12, .inl (fun _ => 0))), (q15, .inl (cy 1, 12, .inl (fun _ => 0))), (q23, .inl (cy 1, 12, .inl (fun _ => 0)))]) [4] [0, 1, 2, 3] rfl rfl (by decide) (by decide) (n_runI (As := [.int 12]) (rest := [.ref q29, .ref h0]) E h [4] (by decide) rfl (n_X3_12 l D cy q29 H.size ) co_X3_init ml_X0_23 im_X3_init in_X3 rfl ok_X3_init rfl ⟨by decide, by decide⟩ hl.1 rfl (Nat.le_of_ble_eq_true rfl) dX0_init_35 ⟨Nat.le_of_ble_eq_true rfl, Nat.le_of_ble_eq_true rfl⟩) (fun u35 H locs h => ?_)
  replace h : HW D _ s [(h0, .inr (0, [.ref q7, .ref q15, .ref q23, .null, .int 0])), (q7, .inl (cy 1, 12, .inl (fun _ => 0))), (q15, .inl (cy 1, 12, .inl (fun _ => 0))), (q23, .inl (cy 1, 12, .inl (fun _ => 0))), (q29, .inr (3, [.int 12, .ref (u35 1), .ref (u35 0)])), ((u35 0), .inl (cy 1, 12, .inl (fun _ => 0))), ((u35 1), .inl (cy 1, 144, .inl (fun _ => 0)))] H _ := h
  refine r_putF E hin h 3 (q0 := 0) (ty := .object "WaterOffice$Groups") rfl rfl fw_X0 tyX0_ok nmX0 (by decide) fl_X0_26 rfl rfl (by decide +kernel) rfl rfl (Nat.le_of_ble_eq_true rfl) (ws' := [(h0, .inr (0, [.ref q7, .ref q15, .ref q23, .ref q29, .int 0])), (q7, .inl (cy 1, 12, .inl (fun _ => 0))), (q15, .inl (cy 1, 12, .inl (fun _ => 0))), (q23, .inl (cy 1, 12, .inl (fun _ => 0))), (q29, .inr (3, [.int 12, .ref (u35 1), .ref (u35 0)])), ((u35 0), .inl (cy 1, 12, .inl (fun _ => 0))), ((u35 1), .inl (cy 1, 144, .inl (fun _ => 0)))]) rfl dX0_init_38 (fun H locs h => ?_)
  exact n_ret E h hr hk (fun k => [q7, q15, q23, q29, u35 0, u35 1].getD k 0) rfl dX0_init_41

set_option maxHeartbeats 4000000 in
set_option maxRecDepth 100000 in
theorem n_X6 (l : Launch) (D : va_G) (cy : Nat → ClassId) (h0 sz : Nat)  : CC l yX6_init cX6_init 1 (rmC 2 8 1375 33) D cy [(h0, .inr (6, [.null, .null, .null, .null, .null, .null, .int 0]))] sz [.ref h0] 8 1375 (fun u => [(h0, .inr (6, [.ref (u 0), .ref (u 1), .ref (u 2), .ref (u 3), .ref (u 4), .ref (u 5), .int 0])), ((u 0), .inl (cy 1, 80, .inl (fun _ => 0))), ((u 1), .inl (cy 1, 80, .inl (fun _ => 0))), ((u 2), .inl (cy 1, 80, .inl (fun _ => 0))), ((u 3), .inl (cy 1, 80, .inl (fun _ => 0))), ((u 4), .inl (cy 1, 80, .inl (fun _ => 0))), ((u 5), .inr (3, [.int 80, .ref (u 7), .ref (u 6)])), ((u 6), .inl (cy 1, 12, .inl (fun _ => 0))), ((u 7), .inl (cy 1, 960, .inl (fun _ => 0)))]) := by
  refine n_of (lv := [(0, .ref h0)]) rfl (Nat.le_of_ble_eq_true rfl) rfl rfl ?_
  intro p e s m args below meth c ls E hsz h hA hr hk hin hl
  have hx := E.1
  have hb := E.2.1
  refine lv_aload_n hx hb dX6_init_0 rfl (lv_at hl 0 rfl) ?_
  refine W.objInit hx hb E.2.2.2.1 (E.2.2.2.2.1 _ ml_X6_3) (E.2.2.2.2.1 _ im_java_lang_Object__init____V) (E.2.2.2.2.1 _ co_objectInit) rfl (by rw [E.2.2.1]; exact hl.1) rfl dX6_init_1 (Nat.le_of_ble_eq_true rfl) (Nat.le_of_ble_eq_true rfl) ?_
  refine W.eq (g2 := F0 m 4 ls []) rfl ?_
  refine lv_aload_n hx hb dX6_init_4 rfl (lv_at hl 0 rfl) ?_
  refine lv_bipush (v := 80) hx hb dX6_init_5 (by decide) ?_
  refine r_newa E h hA (atype := .int) (ty := .int) (N := 80) (k := 1) rfl rfl ac_int rfl (fun _ _ => rfl) (by decide) (by decide) (by decide) (Nat.le_of_ble_eq_true rfl) (Nat.le_of_ble_eq_true rfl) dX6_init_7 (fun q7 H h => ?_)
  replace h : HW D _ s [(h0, .inr (6, [.null, .null, .null, .null, .null, .null, .int 0])), (q7, .inl (cy 1, 80, .inl (fun _ => 0)))] H _ := h
  refine r_putF E hin h 0 (q0 := 0) (ty := .array .int) rfl rfl fw_X6 tyX6_ok nmX6 (by decide) fl_X6_9 rfl rfl (by decide +kernel) rfl rfl (Nat.le_of_ble_eq_true rfl) (ws' := [(h0, .inr (6, [.ref q7, .null, .null, .null, .null, .null, .int 0])), (q7, .inl (cy 1, 80, .inl (fun _ => 0)))]) rfl dX6_init_9 (fun H locs h => ?_)
  refine lv_aload_n hx hb dX6_init_12 rfl (lv_at hl 0 rfl) ?_
  refine lv_bipush (v := 80) hx hb dX6_init_13 (by decide) ?_
  refine r_newa E h hA (atype := .int) (ty := .int) (N := 80) (k := 1) rfl rfl ac_int rfl (fun _ _ => rfl) (by decide) (by decide) (by decide) (Nat.le_of_ble_eq_true rfl) (Nat.le_of_ble_eq_true rfl) dX6_init_15 (fun q15 H h => ?_)
  replace h : HW D _ s [(h0, .inr (6, [.ref q7, .null, .null, .null, .null, .null, .int 0])), (q7, .inl (cy 1, 80, .inl (fun _ => 0))), (q15, .inl (cy 1, 80, .inl (fun _ => 0)))] H _ := h
  refine r_putF E hin h 1 (q0 := 0) (ty := .array .int) rfl rfl fw_X6 tyX6_ok nmX6 (by decide) fl_X6_15 rfl rfl (by decide +kernel) rfl rfl (Nat.le_of_ble_eq_true rfl) (ws' := [(h0, .inr (6, [.ref q7, .ref q15, .null, .null, .null, .null, .int 0])), (q7, .inl (cy 1, 80, .inl (fun _ => 0))), (q15, .inl (cy 1, 80, .inl (fun _ => 0)))]) rfl dX6_init_17 (fun H locs h => ?_)
  refine lv_aload_n hx hb dX6_init_20 rfl (lv_at hl 0 rfl) ?_
  refine lv_bipush (v := 80) hx hb dX6_init_21 (by decide) ?_
  refine r_newa E h hA (atype := .int) (ty := .int) (N := 80) (k := 1) rfl rfl ac_int rfl (fun _ _ => rfl) (by decide) (by decide) (by decide) (Nat.le_of_ble_eq_true rfl) (Nat.le_of_ble_eq_true rfl) dX6_init_23 (fun q23 H h => ?_)
  replace h : HW D _ s [(h0, .inr (6, [.ref q7, .ref q15, .null, .null, .null, .null, .int 0])), (q7, .inl (cy 1, 80, .inl (fun _ => 0))), (q15, .inl (cy 1, 80, .inl (fun _ => 0))), (q23, .inl (cy 1, 80, .inl (fun _ => 0)))] H _ := h
  refine r_putF E hin h 2 (q0 := 0) (ty := .array .int) rfl rfl fw_X6 tyX6_ok nmX6 (by decide) fl_X6_18 rfl rfl (by decide +kernel) rfl rfl (Nat.le_of_ble_eq_true rfl) (ws' := [(h0, .inr (6, [.ref q7, .ref q15, .ref q23, .null, .null, .null, .int 0])), (q7, .inl (cy 1, 80, .inl (fun _ => 0))), (q15, .inl (cy 1, 80, .inl (fun _ => 0))), (q23, .inl (cy 1, 80, .inl (fun _ => 0)))]) rfl dX6_init_25 (fun H locs h => ?_)
  refine lv_aload_n hx hb dX6_init_28 rfl (lv_at hl 0 rfl) ?_
  refine lv_bipush (v := 80) hx hb dX6_init_29 (by decide) ?_
  refine r_newa E h hA (atype := .int) (ty := .int) (N := 80) (k := 1) rfl rfl ac_int rfl (fun _ _ => rfl) (by decide) (by decide) (by decide) (Nat.le_of_ble_eq_true rfl) (Nat.le_of_ble_eq_true rfl) dX6_init_31 (fun q31 H h => ?_)
  replace h : HW D _ s [(h0, .inr (6, [.ref q7, .ref q15, .ref q23, .null, .null, .null, .int 0])), (q7, .inl (cy 1, 80, .inl (fun _ => 0))), (q15, .inl (cy 1, 80, .inl (fun _ => 0))), (q23, .inl (cy 1, 80, .inl (fun _ => 0))), (q31, .inl (cy 1, 80, .inl (fun _ => 0)))] H _ := h
  refine r_putF E hin h 3 (q0 := 0) (ty := .array .int) rfl rfl fw_X6 tyX6_ok nmX6 (by decide) fl_X6_21 rfl rfl (by decide +kernel) rfl rfl (Nat.le_of_ble_eq_true rfl) (ws' := [(h0, .inr (6, [.ref q7, .ref q15, .ref q23, .ref q31, .null, .null, .int 0])), (q7, .inl (cy 1, 80, .inl (fun _ => 0))), (q15, .inl (cy 1, 80, .inl (fun _ => 0))), (q23, .inl (cy 1, 80, .inl (fun _ => 0))), (q31, .inl (cy 1, 80, .inl (fun _ => 0)))]) rfl dX6_init_33 (fun H locs h => ?_)
  refine lv_aload_n hx hb dX6_init_36 rfl (lv_at hl 0 rfl) ?_
  refine lv_bipush (v := 80) hx hb dX6_init_37 (by decide) ?_
  refine r_newa E h hA (atype := .int) (ty := .int) (N := 80) (k := 1) rfl rfl ac_int rfl (fun _ _ => rfl) (by decide) (by decide) (by decide) (Nat.le_of_ble_eq_true rfl) (Nat.le_of_ble_eq_true rfl) dX6_init_39 (fun q39 H h => ?_)
  replace h : HW D _ s [(h0, .inr (6, [.ref q7, .ref q15, .ref q23, .ref q31, .null, .null, .int 0])), (q7, .inl (cy 1, 80, .inl (fun _ => 0))), (q15, .inl (cy 1, 80, .inl (fun _ => 0))), (q23, .inl (cy 1, 80, .inl (fun _ => 0))), (q31, .inl (cy 1, 80, .inl (fun _ => 0))), (q39, .inl (cy 1, 80, .inl (fun _ => 0)))] H _ := h
  refine r_putF E hin h 4 (q0 := 0) (ty := .array .int) rfl rfl fw_X6 tyX6_ok nmX6 (by decide) fl_X6_24 rfl rfl (by decide +kernel) rfl rfl (Nat.le_of_ble_eq_true rfl) (ws' := [(h0, .inr (6, [.ref q7, .ref q15, .ref q23, .ref q31, .ref q39, .null, .int 0])), (q7, .inl (cy 1, 80, .inl (fun _ => 0))), (q15, .inl (cy 1, 80, .inl (fun _ => 0))), (q23, .inl (cy 1, 80, .inl (fun _ => 0))), (q31, .inl (cy 1, 80, .inl (fun _ => 0))), (q39, .inl (cy 1, 80, .inl (fun _ => 0)))]) rfl dX6_init_41 (fun H locs h => ?_)
  refine lv_aload_n hx hb dX6_init_44 rfl (lv_at hl 0 rfl) ?_
  refine r_new E h hA (ci := 3) (fs := [.int 0, .null, .null]) fw_X3 tyX3_ok cl_X6_27 is_X3 in_X3 rfl (fun j hj => by rcases (show j = 0 ∨ j = 1 ∨ j = 2 by omega) with rfl | rfl | rfl <;> rfl) (Nat.le_of_ble_eq_true rfl) (Nat.le_of_ble_eq_true rfl) dX6_init_45 (fun q45 H h => ?_)
  replace h : HW D _ s [(h0, .inr (6, [.ref q7, .ref q15, .ref q23, .ref q31, .ref q39, .null, .int 0])), (q7, .inl (cy 1, 80, .inl (fun _ => 0))), (q15, .inl (cy 1, 80, .inl (fun _ => 0))), (q23, .inl (cy 1, 80, .inl (fun _ => 0))), (q31, .inl (cy 1, 80, .inl (fun _ => 0))), (q39, .inl (cy 1, 80, .inl (fun _ => 0))), (q45, .inr (3, [.int 0, .null, .null]))] H _ := h
  refine lv_dup hx hb dX6_init_48 rfl ?_
  refine lv_bipush (v := 80) hx hb dX6_init_49 (by decide) ?_
  refine n_call h hA (wc := [(q45, .inr (3, [.int 0, .null, .null]))]) (wr := [(h0, .inr (6, [.ref q7, .ref q15, .ref q23, .ref q31, .ref q39, .null, .int 0])), (q7, .inl (cy 1, 80, .inl (fun _ => 0))), (q15, .inl (cy 1, 80, .inl (fun _ => 0))), (q23, .inl (cy 1, 80, .inl (fun _ => 0))), (q31, .inl (cy 1, 80, .inl (fun _ => 0))), (q39, .inl (cy 1, 80, .inl (fun _ => 0)))]) [6] [0, 1, 2, 3, 4, 5] rfl rfl (by decide) (by decide) (n_runI (As := [.int 80]) (rest := [.ref q45, .ref h0]) E h [6] (by decide) rfl (n_X3_80 l D cy q45 H.size ) co_X3_init ml_X6_29 im_X3_init in_X3 rfl ok_X3_init rfl ⟨by decide, by decide⟩ hl.1 rfl (Nat.le_of_ble_eq_true rfl) dX6_init_51 ⟨Nat.le_of_ble_eq_true rfl, Nat.le_of_ble_eq_true rfl⟩) (fun u51 H locs h => ?_)
  replace h : HW D _ s [(h0, .inr (6, [.ref q7, .ref q15, .ref q23, .ref q31, .ref q39, .null, .int 0])), (q7, .inl (cy 1, 80, .inl (fun _ => 0))), (q15, .inl (cy 1, 80, .inl (fun _ => 0))), (q23, .inl (cy 1, 80, .inl (fun _ => 0))), (q31, .inl (cy 1, 80, .inl (fun _ => 0))), (q39, .inl (cy 1, 80, .inl (fun _ => 0))), (q45, .inr (3, [.int 80, .ref (u51 1), .ref (u51 0)])), ((u51 0), .inl (cy 1, 12, .inl (fun _ => 0))), ((u51 1), .inl (cy 1, 960, .inl (fun _ => 0)))] H _ := h
  refine r_putF E hin h 5 (q0 := 0) (ty := .object "WaterOffice$Groups") rfl rfl fw_X6 tyX6_ok nmX6 (by decide) fl_X6_32 rfl rfl (by decide +kernel) rfl rfl (Nat.le_of_ble_eq_true rfl) (ws' := [(h0, .inr (6, [.ref q7, .ref q15, .ref q23, .ref q31, .ref q39, .ref q45, .int 0])), (q7, .inl (cy 1, 80, .inl (fun _ => 0))), (q15, .inl (cy 1, 80, .inl (fun _ => 0))), (q23, .inl (cy 1, 80, .inl (fun _ => 0))), (q31, .inl (cy 1, 80, .inl (fun _ => 0))), (q39, .inl (cy 1, 80, .inl (fun _ => 0))), (q45, .inr (3, [.int 80, .ref (u51 1), .ref (u51 0)])), ((u51 0), .inl (cy 1, 12, .inl (fun _ => 0))), ((u51 1), .inl (cy 1, 960, .inl (fun _ => 0)))]) rfl dX6_init_54 (fun H locs h => ?_)
  exact n_ret E h hr hk (fun k => [q7, q15, q23, q31, q39, q45, u51 0, u51 1].getD k 0) rfl dX6_init_57

set_option maxHeartbeats 4000000 in
set_option maxRecDepth 100000 in
theorem n_X8_60 (l : Launch) (D : va_G) (cy : Nat → ClassId) (h0 sz : Nat)  : CC l yX8_init cX8_init 2 (rmC 2 6 915 33) D cy [(h0, .inr (8, [.null, .null, .null, .null, .int 0]))] sz [.ref h0, .int 60] 6 915 (fun u => [(h0, .inr (8, [.ref (u 0), .ref (u 1), .ref (u 2), .ref (u 3), .int 0])), ((u 0), .inl (cy 1, 60, .inl (fun _ => 0))), ((u 1), .inl (cy 1, 60, .inl (fun _ => 0))), ((u 2), .inl (cy 1, 60, .inl (fun _ => 0))), ((u 3), .inr (3, [.int 60, .ref (u 5), .ref (u 4)])), ((u 4), .inl (cy 1, 12, .inl (fun _ => 0))), ((u 5), .inl (cy 1, 720, .inl (fun _ => 0)))]) := by
  refine n_of (lv := [(0, .ref h0), (1, .int 60)]) rfl (Nat.le_of_ble_eq_true rfl) rfl rfl ?_
  intro p e s m args below meth c ls E hsz h hA hr hk hin hl
  have hx := E.1
  have hb := E.2.1
  refine lv_aload_n hx hb dX8_init_0 rfl (lv_at hl 0 rfl) ?_
  refine W.objInit hx hb E.2.2.2.1 (E.2.2.2.2.1 _ ml_X8_3) (E.2.2.2.2.1 _ im_java_lang_Object__init____V) (E.2.2.2.2.1 _ co_objectInit) rfl (by rw [E.2.2.1]; exact hl.1) rfl dX8_init_1 (Nat.le_of_ble_eq_true rfl) (Nat.le_of_ble_eq_true rfl) ?_
  refine W.eq (g2 := F0 m 4 ls []) rfl ?_
  refine lv_aload_n hx hb dX8_init_4 rfl (lv_at hl 0 rfl) ?_
  refine lv_iload_n hx hb dX8_init_5 rfl (lv_at hl 1 rfl) ?_
  refine r_newa E h hA (atype := .int) (ty := .int) (N := 60) (k := 1) rfl rfl ac_int rfl (fun _ _ => rfl) (by decide) (by decide) (by decide) (Nat.le_of_ble_eq_true rfl) (Nat.le_of_ble_eq_true rfl) dX8_init_6 (fun q6 H h => ?_)
  replace h : HW D _ s [(h0, .inr (8, [.null, .null, .null, .null, .int 0])), (q6, .inl (cy 1, 60, .inl (fun _ => 0)))] H _ := h
  refine r_putF E hin h 0 (q0 := 0) (ty := .array .int) rfl rfl fw_X8 tyX8_ok nmX8 (by decide) fl_X8_9 rfl rfl (by decide +kernel) rfl rfl (Nat.le_of_ble_eq_true rfl) (ws' := [(h0, .inr (8, [.ref q6, .null, .null, .null, .int 0])), (q6, .inl (cy 1, 60, .inl (fun _ => 0)))]) rfl dX8_init_8 (fun H locs h => ?_)
  refine lv_aload_n hx hb dX8_init_11 rfl (lv_at hl 0 rfl) ?_
  refine lv_iload_n hx hb dX8_init_12 rfl (lv_at hl 1 rfl) ?_
  refine r_newa E h hA (atype := .int) (ty := .int) (N := 60) (k := 1) rfl rfl ac_int rfl (fun _ _ => rfl) (by decide) (by decide) (by decide) (Nat.le_of_ble_eq_true rfl) (Nat.le_of_ble_eq_true rfl) dX8_init_13 (fun q13 H h => ?_)
  replace h : HW D _ s [(h0, .inr (8, [.ref q6, .null, .null, .null, .int 0])), (q6, .inl (cy 1, 60, .inl (fun _ => 0))), (q13, .inl (cy 1, 60, .inl (fun _ => 0)))] H _ := h
  refine r_putF E hin h 1 (q0 := 0) (ty := .array .int) rfl rfl fw_X8 tyX8_ok nmX8 (by decide) fl_X8_15 rfl rfl (by decide +kernel) rfl rfl (Nat.le_of_ble_eq_true rfl) (ws' := [(h0, .inr (8, [.ref q6, .ref q13, .null, .null, .int 0])), (q6, .inl (cy 1, 60, .inl (fun _ => 0))), (q13, .inl (cy 1, 60, .inl (fun _ => 0)))]) rfl dX8_init_15 (fun H locs h => ?_)
  refine lv_aload_n hx hb dX8_init_18 rfl (lv_at hl 0 rfl) ?_
  refine lv_iload_n hx hb dX8_init_19 rfl (lv_at hl 1 rfl) ?_
  refine r_newa E h hA (atype := .int) (ty := .int) (N := 60) (k := 1) rfl rfl ac_int rfl (fun _ _ => rfl) (by decide) (by decide) (by decide) (Nat.le_of_ble_eq_true rfl) (Nat.le_of_ble_eq_true rfl) dX8_init_20 (fun q20 H h => ?_)
  replace h : HW D _ s [(h0, .inr (8, [.ref q6, .ref q13, .null, .null, .int 0])), (q6, .inl (cy 1, 60, .inl (fun _ => 0))), (q13, .inl (cy 1, 60, .inl (fun _ => 0))), (q20, .inl (cy 1, 60, .inl (fun _ => 0)))] H _ := h
  refine r_putF E hin h 2 (q0 := 0) (ty := .array .int) rfl rfl fw_X8 tyX8_ok nmX8 (by decide) fl_X8_18 rfl rfl (by decide +kernel) rfl rfl (Nat.le_of_ble_eq_true rfl) (ws' := [(h0, .inr (8, [.ref q6, .ref q13, .ref q20, .null, .int 0])), (q6, .inl (cy 1, 60, .inl (fun _ => 0))), (q13, .inl (cy 1, 60, .inl (fun _ => 0))), (q20, .inl (cy 1, 60, .inl (fun _ => 0)))]) rfl dX8_init_22 (fun H locs h => ?_)
  refine lv_aload_n hx hb dX8_init_25 rfl (lv_at hl 0 rfl) ?_
  refine r_new E h hA (ci := 3) (fs := [.int 0, .null, .null]) fw_X3 tyX3_ok cl_X8_21 is_X3 in_X3 rfl (fun j hj => by rcases (show j = 0 ∨ j = 1 ∨ j = 2 by omega) with rfl | rfl | rfl <;> rfl) (Nat.le_of_ble_eq_true rfl) (Nat.le_of_ble_eq_true rfl) dX8_init_26 (fun q26 H h => ?_)
  replace h : HW D _ s [(h0, .inr (8, [.ref q6, .ref q13, .ref q20, .null, .int 0])), (q6, .inl (cy 1, 60, .inl (fun _ => 0))), (q13, .inl (cy 1, 60, .inl (fun _ => 0))), (q20, .inl (cy 1, 60, .inl (fun _ => 0))), (q26, .inr (3, [.int 0, .null, .null]))] H _ := h
  refine lv_dup hx hb dX8_init_29 rfl ?_
  refine lv_iload_n hx hb dX8_init_30 rfl (lv_at hl 1 rfl) ?_
  refine n_call h hA (wc := [(q26, .inr (3, [.int 0, .null, .null]))]) (wr := [(h0, .inr (8, [.ref q6, .ref q13, .ref q20, .null, .int 0])), (q6, .inl (cy 1, 60, .inl (fun _ => 0))), (q13, .inl (cy 1, 60, .inl (fun _ => 0))), (q20, .inl (cy 1, 60, .inl (fun _ => 0)))]) [4] [0, 1, 2, 3] rfl rfl (by decide) (by decide) (n_runI (As := [.int 60]) (rest := [.ref q26, .ref h0]) E h [4] (by decide) rfl (n_X3_60 l D cy q26 H.size ) co_X3_init ml_X8_23 im_X3_init in_X3 rfl ok_X3_init rfl ⟨by decide, by decide⟩ hl.1 rfl (Nat.le_of_ble_eq_true rfl) dX8_init_31 ⟨Nat.le_of_ble_eq_true rfl, Nat.le_of_ble_eq_true rfl⟩) (fun u31 H locs h => ?_)
  replace h : HW D _ s [(h0, .inr (8, [.ref q6, .ref q13, .ref q20, .null, .int 0])), (q6, .inl (cy 1, 60, .inl (fun _ => 0))), (q13, .inl (cy 1, 60, .inl (fun _ => 0))), (q20, .inl (cy 1, 60, .inl (fun _ => 0))), (q26, .inr (3, [.int 60, .ref (u31 1), .ref (u31 0)])), ((u31 0), .inl (cy 1, 12, .inl (fun _ => 0))), ((u31 1), .inl (cy 1, 720, .inl (fun _ => 0)))] H _ := h
  refine r_putF E hin h 3 (q0 := 0) (ty := .object "WaterOffice$Groups") rfl rfl fw_X8 tyX8_ok nmX8 (by decide) fl_X8_26 rfl rfl (by decide +kernel) rfl rfl (Nat.le_of_ble_eq_true rfl) (ws' := [(h0, .inr (8, [.ref q6, .ref q13, .ref q20, .ref q26, .int 0])), (q6, .inl (cy 1, 60, .inl (fun _ => 0))), (q13, .inl (cy 1, 60, .inl (fun _ => 0))), (q20, .inl (cy 1, 60, .inl (fun _ => 0))), (q26, .inr (3, [.int 60, .ref (u31 1), .ref (u31 0)])), ((u31 0), .inl (cy 1, 12, .inl (fun _ => 0))), ((u31 1), .inl (cy 1, 720, .inl (fun _ => 0)))]) rfl dX8_init_34 (fun H locs h => ?_)
  exact n_ret E h hr hk (fun k => [q6, q13, q20, q26, u31 0, u31 1].getD k 0) rfl dX8_init_37

set_option maxHeartbeats 4000000 in
set_option maxRecDepth 100000 in
theorem n_X8_40 (l : Launch) (D : va_G) (cy : Nat → ClassId) (h0 sz : Nat)  : CC l yX8_init cX8_init 2 (rmC 2 6 615 33) D cy [(h0, .inr (8, [.null, .null, .null, .null, .int 0]))] sz [.ref h0, .int 40] 6 615 (fun u => [(h0, .inr (8, [.ref (u 0), .ref (u 1), .ref (u 2), .ref (u 3), .int 0])), ((u 0), .inl (cy 1, 40, .inl (fun _ => 0))), ((u 1), .inl (cy 1, 40, .inl (fun _ => 0))), ((u 2), .inl (cy 1, 40, .inl (fun _ => 0))), ((u 3), .inr (3, [.int 40, .ref (u 5), .ref (u 4)])), ((u 4), .inl (cy 1, 12, .inl (fun _ => 0))), ((u 5), .inl (cy 1, 480, .inl (fun _ => 0)))]) := by
  refine n_of (lv := [(0, .ref h0), (1, .int 40)]) rfl (Nat.le_of_ble_eq_true rfl) rfl rfl ?_
  intro p e s m args below meth c ls E hsz h hA hr hk hin hl
  have hx := E.1
  have hb := E.2.1
  refine lv_aload_n hx hb dX8_init_0 rfl (lv_at hl 0 rfl) ?_
  refine W.objInit hx hb E.2.2.2.1 (E.2.2.2.2.1 _ ml_X8_3) (E.2.2.2.2.1 _ im_java_lang_Object__init____V) (E.2.2.2.2.1 _ co_objectInit) rfl (by rw [E.2.2.1]; exact hl.1) rfl dX8_init_1 (Nat.le_of_ble_eq_true rfl) (Nat.le_of_ble_eq_true rfl) ?_
  refine W.eq (g2 := F0 m 4 ls []) rfl ?_
  refine lv_aload_n hx hb dX8_init_4 rfl (lv_at hl 0 rfl) ?_
  refine lv_iload_n hx hb dX8_init_5 rfl (lv_at hl 1 rfl) ?_
  refine r_newa E h hA (atype := .int) (ty := .int) (N := 40) (k := 1) rfl rfl ac_int rfl (fun _ _ => rfl) (by decide) (by decide) (by decide) (Nat.le_of_ble_eq_true rfl) (Nat.le_of_ble_eq_true rfl) dX8_init_6 (fun q6 H h => ?_)
  replace h : HW D _ s [(h0, .inr (8, [.null, .null, .null, .null, .int 0])), (q6, .inl (cy 1, 40, .inl (fun _ => 0)))] H _ := h
  refine r_putF E hin h 0 (q0 := 0) (ty := .array .int) rfl rfl fw_X8 tyX8_ok nmX8 (by decide) fl_X8_9 rfl rfl (by decide +kernel) rfl rfl (Nat.le_of_ble_eq_true rfl) (ws' := [(h0, .inr (8, [.ref q6, .null, .null, .null, .int 0])), (q6, .inl (cy 1, 40, .inl (fun _ => 0)))]) rfl dX8_init_8 (fun H locs h => ?_)
  refine lv_aload_n hx hb dX8_init_11 rfl (lv_at hl 0 rfl) ?_
  refine lv_iload_n hx hb dX8_init_12 rfl (lv_at hl 1 rfl) ?_
  refine r_newa E h hA (atype := .int) (ty := .int) (N := 40) (k := 1) rfl rfl ac_int rfl (fun _ _ => rfl) (by decide) (by decide) (by decide) (Nat.le_of_ble_eq_true rfl) (Nat.le_of_ble_eq_true rfl) dX8_init_13 (fun q13 H h => ?_)
  replace h : HW D _ s [(h0, .inr (8, [.ref q6, .null, .null, .null, .int 0])), (q6, .inl (cy 1, 40, .inl (fun _ => 0))), (q13, .inl (cy 1, 40, .inl (fun _ => 0)))] H _ := h
  refine r_putF E hin h 1 (q0 := 0) (ty := .array .int) rfl rfl fw_X8 tyX8_ok nmX8 (by decide) fl_X8_15 rfl rfl (by decide +kernel) rfl rfl (Nat.le_of_ble_eq_true rfl) (ws' := [(h0, .inr (8, [.ref q6, .ref q13, .null, .null, .int 0])), (q6, .inl (cy 1, 40, .inl (fun _ => 0))), (q13, .inl (cy 1, 40, .inl (fun _ => 0)))]) rfl dX8_init_15 (fun H locs h => ?_)
  refine lv_aload_n hx hb dX8_init_18 rfl (lv_at hl 0 rfl) ?_
  refine lv_iload_n hx hb dX8_init_19 rfl (lv_at hl 1 rfl) ?_
  refine r_newa E h hA (atype := .int) (ty := .int) (N := 40) (k := 1) rfl rfl ac_int rfl (fun _ _ => rfl) (by decide) (by decide) (by decide) (Nat.le_of_ble_eq_true rfl) (Nat.le_of_ble_eq_true rfl) dX8_init_20 (fun q20 H h => ?_)
  replace h : HW D _ s [(h0, .inr (8, [.ref q6, .ref q13, .null, .null, .int 0])), (q6, .inl (cy 1, 40, .inl (fun _ => 0))), (q13, .inl (cy 1, 40, .inl (fun _ => 0))), (q20, .inl (cy 1, 40, .inl (fun _ => 0)))] H _ := h
  refine r_putF E hin h 2 (q0 := 0) (ty := .array .int) rfl rfl fw_X8 tyX8_ok nmX8 (by decide) fl_X8_18 rfl rfl (by decide +kernel) rfl rfl (Nat.le_of_ble_eq_true rfl) (ws' := [(h0, .inr (8, [.ref q6, .ref q13, .ref q20, .null, .int 0])), (q6, .inl (cy 1, 40, .inl (fun _ => 0))), (q13, .inl (cy 1, 40, .inl (fun _ => 0))), (q20, .inl (cy 1, 40, .inl (fun _ => 0)))]) rfl dX8_init_22 (fun H locs h => ?_)
  refine lv_aload_n hx hb dX8_init_25 rfl (lv_at hl 0 rfl) ?_
  refine r_new E h hA (ci := 3) (fs := [.int 0, .null, .null]) fw_X3 tyX3_ok cl_X8_21 is_X3 in_X3 rfl (fun j hj => by rcases (show j = 0 ∨ j = 1 ∨ j = 2 by omega) with rfl | rfl | rfl <;> rfl) (Nat.le_of_ble_eq_true rfl) (Nat.le_of_ble_eq_true rfl) dX8_init_26 (fun q26 H h => ?_)
  replace h : HW D _ s [(h0, .inr (8, [.ref q6, .ref q13, .ref q20, .null, .int 0])), (q6, .inl (cy 1, 40, .inl (fun _ => 0))), (q13, .inl (cy 1, 40, .inl (fun _ => 0))), (q20, .inl (cy 1, 40, .inl (fun _ => 0))), (q26, .inr (3, [.int 0, .null, .null]))] H _ := h
  refine lv_dup hx hb dX8_init_29 rfl ?_
  refine lv_iload_n hx hb dX8_init_30 rfl (lv_at hl 1 rfl) ?_
  refine n_call h hA (wc := [(q26, .inr (3, [.int 0, .null, .null]))]) (wr := [(h0, .inr (8, [.ref q6, .ref q13, .ref q20, .null, .int 0])), (q6, .inl (cy 1, 40, .inl (fun _ => 0))), (q13, .inl (cy 1, 40, .inl (fun _ => 0))), (q20, .inl (cy 1, 40, .inl (fun _ => 0)))]) [4] [0, 1, 2, 3] rfl rfl (by decide) (by decide) (n_runI (As := [.int 40]) (rest := [.ref q26, .ref h0]) E h [4] (by decide) rfl (n_X3_40 l D cy q26 H.size ) co_X3_init ml_X8_23 im_X3_init in_X3 rfl ok_X3_init rfl ⟨by decide, by decide⟩ hl.1 rfl (Nat.le_of_ble_eq_true rfl) dX8_init_31 ⟨Nat.le_of_ble_eq_true rfl, Nat.le_of_ble_eq_true rfl⟩) (fun u31 H locs h => ?_)
  replace h : HW D _ s [(h0, .inr (8, [.ref q6, .ref q13, .ref q20, .null, .int 0])), (q6, .inl (cy 1, 40, .inl (fun _ => 0))), (q13, .inl (cy 1, 40, .inl (fun _ => 0))), (q20, .inl (cy 1, 40, .inl (fun _ => 0))), (q26, .inr (3, [.int 40, .ref (u31 1), .ref (u31 0)])), ((u31 0), .inl (cy 1, 12, .inl (fun _ => 0))), ((u31 1), .inl (cy 1, 480, .inl (fun _ => 0)))] H _ := h
  refine r_putF E hin h 3 (q0 := 0) (ty := .object "WaterOffice$Groups") rfl rfl fw_X8 tyX8_ok nmX8 (by decide) fl_X8_26 rfl rfl (by decide +kernel) rfl rfl (Nat.le_of_ble_eq_true rfl) (ws' := [(h0, .inr (8, [.ref q6, .ref q13, .ref q20, .ref q26, .int 0])), (q6, .inl (cy 1, 40, .inl (fun _ => 0))), (q13, .inl (cy 1, 40, .inl (fun _ => 0))), (q20, .inl (cy 1, 40, .inl (fun _ => 0))), (q26, .inr (3, [.int 40, .ref (u31 1), .ref (u31 0)])), ((u31 0), .inl (cy 1, 12, .inl (fun _ => 0))), ((u31 1), .inl (cy 1, 480, .inl (fun _ => 0)))]) rfl dX8_init_34 (fun H locs h => ?_)
  exact n_ret E h hr hk (fun k => [q6, q13, q20, q26, u31 0, u31 1].getD k 0) rfl dX8_init_37

set_option maxHeartbeats 4000000 in
set_option maxRecDepth 100000 in
theorem n_X5 (l : Launch) (D : va_G) (cy : Nat → ClassId) (h0 sz : Nat) (t0 : Nat) : CC l yX5_init cX5_init 2 (rmC 2 6 134 32) D cy [(h0, .inr (5, [.null, .null, .int 0, .int 0, .int 0]))] sz [.ref h0, .ref t0] 6 134 (fun u => [(h0, .inr (5, [.ref t0, .ref (u 0), .int 0, .int 0, .int (-1)])), ((u 0), .inr (4, [.ref (u 1), .ref (u 2), .ref (u 3), .ref (u 4), .ref (u 5), .int 0])), ((u 1), .inl (cy 1, 30, .inl (fun _ => 0))), ((u 2), .inl (cy 1, 30, .inl (fun _ => 0))), ((u 3), .inl (cy 1, 30, .inl (fun _ => 0))), ((u 4), .inl (cy 1, 30, .inl (fun _ => 0))), ((u 5), .inl (cy 1, 8, .inl (fun _ => 0)))]) := by
  refine n_of (lv := [(0, .ref h0), (1, .ref t0)]) rfl (Nat.le_of_ble_eq_true rfl) rfl rfl ?_
  intro p e s m args below meth c ls E hsz h hA hr hk hin hl
  have hx := E.1
  have hb := E.2.1
  refine lv_aload_n hx hb dX5_init_0 rfl (lv_at hl 0 rfl) ?_
  refine W.objInit hx hb E.2.2.2.1 (E.2.2.2.2.1 _ ml_X5_3) (E.2.2.2.2.1 _ im_java_lang_Object__init____V) (E.2.2.2.2.1 _ co_objectInit) rfl (by rw [E.2.2.1]; exact hl.1) rfl dX5_init_1 (Nat.le_of_ble_eq_true rfl) (Nat.le_of_ble_eq_true rfl) ?_
  refine W.eq (g2 := F0 m 4 ls []) rfl ?_
  refine lv_aload_n hx hb dX5_init_4 rfl (lv_at hl 0 rfl) ?_
  refine r_new E h hA (ci := 4) (fs := [.null, .null, .null, .null, .null, .int 0]) fw_X4 tyX4_ok cl_X5_9 is_X4 in_X4 rfl (fun j hj => by rcases (show j = 0 ∨ j = 1 ∨ j = 2 ∨ j = 3 ∨ j = 4 ∨ j = 5 by omega) with rfl | rfl | rfl | rfl | rfl | rfl <;> rfl) (Nat.le_of_ble_eq_true rfl) (Nat.le_of_ble_eq_true rfl) dX5_init_5 (fun q5 H h => ?_)
  replace h : HW D _ s [(h0, .inr (5, [.null, .null, .int 0, .int 0, .int 0])), (q5, .inr (4, [.null, .null, .null, .null, .null, .int 0]))] H _ := h
  refine lv_dup hx hb dX5_init_8 rfl ?_
  refine n_call h hA (wc := [(q5, .inr (4, [.null, .null, .null, .null, .null, .int 0]))]) (wr := [(h0, .inr (5, [.null, .null, .int 0, .int 0, .int 0]))]) [1] [0] rfl rfl (by decide) (by decide) (n_runIN (As := []) (rest := [.ref q5, .ref h0]) E h [1] (by decide) rfl (n_X4 l D cy q5 H.size ) co_X4_init nl_X5_11 im_X4_init in_X4 rfl ok_X4_init rfl ⟨by decide, by decide⟩ hl.1 rfl (Nat.le_of_ble_eq_true rfl) dX5_init_9 ⟨Nat.le_of_ble_eq_true rfl, Nat.le_of_ble_eq_true rfl⟩) (fun u9 H locs h => ?_)
  replace h : HW D _ s [(h0, .inr (5, [.null, .null, .int 0, .int 0, .int 0])), (q5, .inr (4, [.ref (u9 0), .ref (u9 1), .ref (u9 2), .ref (u9 3), .ref (u9 4), .int 0])), ((u9 0), .inl (cy 1, 30, .inl (fun _ => 0))), ((u9 1), .inl (cy 1, 30, .inl (fun _ => 0))), ((u9 2), .inl (cy 1, 30, .inl (fun _ => 0))), ((u9 3), .inl (cy 1, 30, .inl (fun _ => 0))), ((u9 4), .inl (cy 1, 8, .inl (fun _ => 0)))] H _ := h
  refine r_putF E hin h 1 (q0 := 0) (ty := .object "WaterOffice$LawBook") rfl rfl fw_X5 tyX5_ok nmX5 (by decide) fl_X5_12 rfl rfl (by decide +kernel) rfl rfl (Nat.le_of_ble_eq_true rfl) (ws' := [(h0, .inr (5, [.null, .ref q5, .int 0, .int 0, .int 0])), (q5, .inr (4, [.ref (u9 0), .ref (u9 1), .ref (u9 2), .ref (u9 3), .ref (u9 4), .int 0])), ((u9 0), .inl (cy 1, 30, .inl (fun _ => 0))), ((u9 1), .inl (cy 1, 30, .inl (fun _ => 0))), ((u9 2), .inl (cy 1, 30, .inl (fun _ => 0))), ((u9 3), .inl (cy 1, 30, .inl (fun _ => 0))), ((u9 4), .inl (cy 1, 8, .inl (fun _ => 0)))]) rfl dX5_init_12 (fun H locs h => ?_)
  refine lv_aload_n hx hb dX5_init_15 rfl (lv_at hl 0 rfl) ?_
  refine lv_iconst (v := -1) hx hb dX5_init_16 (by decide) ?_
  refine r_put E h 4 (q0 := 0) (ty := .int) rfl rfl fw_X5 tyX5_ok nmX5 (by decide) fl_X5_18 rfl (by decide +kernel) rfl rfl (Nat.le_of_ble_eq_true rfl) (ws' := [(h0, .inr (5, [.null, .ref q5, .int 0, .int 0, .int (-1)])), (q5, .inr (4, [.ref (u9 0), .ref (u9 1), .ref (u9 2), .ref (u9 3), .ref (u9 4), .int 0])), ((u9 0), .inl (cy 1, 30, .inl (fun _ => 0))), ((u9 1), .inl (cy 1, 30, .inl (fun _ => 0))), ((u9 2), .inl (cy 1, 30, .inl (fun _ => 0))), ((u9 3), .inl (cy 1, 30, .inl (fun _ => 0))), ((u9 4), .inl (cy 1, 8, .inl (fun _ => 0)))]) rfl dX5_init_17 (fun H locs h => ?_)
  refine lv_aload_n hx hb dX5_init_20 rfl (lv_at hl 0 rfl) ?_
  refine lv_aload_n hx hb dX5_init_21 rfl (lv_at hl 1 rfl) ?_
  refine r_putF E hin h 0 (q0 := 0) (ty := .object "WaterOffice$Tape") rfl rfl fw_X5 tyX5_ok nmX5 (by decide) fl_X5_22 rfl rfl (by decide +kernel) rfl rfl (Nat.le_of_ble_eq_true rfl) (ws' := [(h0, .inr (5, [.ref t0, .ref q5, .int 0, .int 0, .int (-1)])), (q5, .inr (4, [.ref (u9 0), .ref (u9 1), .ref (u9 2), .ref (u9 3), .ref (u9 4), .int 0])), ((u9 0), .inl (cy 1, 30, .inl (fun _ => 0))), ((u9 1), .inl (cy 1, 30, .inl (fun _ => 0))), ((u9 2), .inl (cy 1, 30, .inl (fun _ => 0))), ((u9 3), .inl (cy 1, 30, .inl (fun _ => 0))), ((u9 4), .inl (cy 1, 8, .inl (fun _ => 0)))]) rfl dX5_init_22 (fun H locs h => ?_)
  exact n_ret E h hr hk (fun k => [q5, u9 0, u9 1, u9 2, u9 3, u9 4].getD k 0) rfl dX5_init_25
