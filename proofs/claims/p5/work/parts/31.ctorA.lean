theorem co_objectInit : Cond.code Lib.objectInit ⟨#[0xb1]⟩ 1 none ∈ TB := tb_at 54 (by decide +kernel) (by decide +kernel)
set_option maxHeartbeats 4000000 in
set_option maxRecDepth 100000 in
theorem n_X10 (l : Launch) (D : va_G) (cy : Nat → ClassId) (h0 sz : Nat)  : CC l yX10_init cX10_init 1 (rmC 1 1 400 12) D cy [(h0, .inr (10, [.null, .int 0]))] sz [.ref h0] 1 400 (fun u => [(h0, .inr (10, [.ref (u 0), .int 0])), ((u 0), .inl (cy 0, 400, .inl (fun _ => 0)))]) := by
  refine n_of (lv := [(0, .ref h0)]) rfl (Nat.le_of_ble_eq_true rfl) rfl rfl ?_
  intro p e s m args below meth c ls E hsz h hA hr hk hin hl
  have hx := E.1
  have hb := E.2.1
  refine lv_aload_n hx hb dX10_init_0 rfl (lv_at hl 0 rfl) ?_
  refine W.objInit hx hb E.2.2.2.1 (E.2.2.2.2.1 _ ml_X10_3) (E.2.2.2.2.1 _ im_java_lang_Object__init____V) (E.2.2.2.2.1 _ co_objectInit) rfl (by rw [E.2.2.1]; exact hl.1) rfl dX10_init_1 (Nat.le_of_ble_eq_true rfl) (Nat.le_of_ble_eq_true rfl) ?_
  refine W.eq (g2 := F0 m 4 ls []) rfl ?_
  refine lv_aload_n hx hb dX10_init_4 rfl (lv_at hl 0 rfl) ?_
  refine lv_sipush (v := 400) hx hb dX10_init_5 (by decide) ?_
  refine r_newa E h hA (N := 400) (k := 0) rfl rfl ac_byte rfl (fun _ _ => rfl) (by decide) (by decide) (by decide) (Nat.le_of_ble_eq_true rfl) (Nat.le_of_ble_eq_true rfl) dX10_init_8 (fun q8 H h => ?_)
  replace h : HW D _ s [(h0, .inr (10, [.null, .int 0])), (q8, .inl (cy 0, 400, .inl (fun _ => 0)))] H _ := h
  refine r_putF E hin h 0 (q0 := 0) (ty := .array .byte) rfl rfl fw_X10 tyX10_ok nmX10 (by decide) fl_X10_9 rfl rfl (by decide +kernel) rfl rfl (Nat.le_of_ble_eq_true rfl) (ws' := [(h0, .inr (10, [.ref q8, .int 0])), (q8, .inl (cy 0, 400, .inl (fun _ => 0)))]) rfl dX10_init_10 (fun H locs h => ?_)
  exact n_ret E h hr hk (fun k => [q8].getD k 0) rfl dX10_init_13
