
theorem wi_n {x : Int32} {n : Nat} (hn : n < 2 ^ 31) (h : (0 : Int32) ≤ x ∧ x ≤ nI n) : ∃ j : Nat, j ≤ n ∧ x = nI j := by
  obtain ⟨j, hj, rfl⟩ := nI_of (Int32.not_lt.mpr h.1)
  exact ⟨j, (nI_leI hj hn).mp h.2, rfl⟩
theorem wi_n1 {x : Int32} {n : Nat} (hn : n < 2 ^ 31) (h : (1 : Int32) ≤ x ∧ x ≤ nI n) : ∃ j : Nat, j + 1 ≤ n ∧ x = nI (j + 1) := by
  obtain ⟨j, hj, e⟩ := wi_n hn ⟨Int32.le_trans (by decide) h.1, h.2⟩
  subst e
  have h2 : 1 ≤ j := (nI_leI (a := 1) (b := j) (by decide) (by omega)).mp h.1
  exact ⟨j - 1, by omega, by rw [show j - 1 + 1 = j by omega]⟩

set_option maxHeartbeats 4000000 in
set_option maxRecDepth 100000 in
theorem c_X10_hasRoom (l : Launch) (D : va_G) (cy : Nat → ClassId) (a : Nat → Nat) (σ : St) (k n : Nat) (hn : σ.1 3 = nI n) (hn4 : n ≤ 400) (hk4 : k ≤ 400) : CI l yX10_hasRoom cX10_hasRoom 2 (some .boolean) (rmOf 0 0) D cy (wX cy a) (AX a) [.ref (a 1), .int (nI k)] σ (fun r τ => τ = σ ∧ ((r = 1 ∧ n + k ≤ 400) ∨ (r = 0 ∧ 400 < n + k))) := by
  refine c_of (lv := [(0, .ref (a 1)), (1, .int (nI k))]) rfl (Nat.le_of_ble_eq_true rfl) rfl ?_
  intro p e s m args below meth c ls E h hr hk hl
  have hx := E.1
  have hb := E.2.1
  refine lv_aload_n hx hb dX10_hasRoom_0 rfl (lv_at hl 0 rfl) ?_
  refine r_get E h 1 (v := .int (nI n)) (eX_1 cy a σ) rfl fw_X10 (by decide) fl_X10_15 (congrArg (fun z => some (Value.int z)) hn) dX10_hasRoom_1 ?_
  refine lv_iload_n hx hb dX10_hasRoom_4 rfl (lv_at hl 1 rfl) ?_
  refine n_add (j := n) (k := k) hx hb dX10_hasRoom_5 ?_
  refine lv_sipush (v := 400) hx hb dX10_hasRoom_6 (by decide) ?_
  refine lv_icmp_gt (tgt := 16) hx hb dX10_hasRoom_9 (by decide) (fun c9 => ?_) (fun c9 => ?_)
  · have c9 : 400 < n + k := n_lt (by decide) (by omega) c9
    refine lv_iconst (v := 0) hx hb dX10_hasRoom_16 (by decide) ?_
    exact t_z E h hr hk (Or.inl rfl) ⟨rfl, Or.inr ⟨rfl, c9⟩⟩ dX10_hasRoom_17
  · have c9 : n + k ≤ 400 := n_nlt (by decide) (by omega) c9
    refine lv_iconst (v := 1) hx hb dX10_hasRoom_12 (by decide) ?_
    refine lv_goto (tgt := 17) hx hb dX10_hasRoom_13 (by decide) ?_
    exact t_z E h hr hk (Or.inr rfl) ⟨rfl, Or.inl ⟨rfl, c9⟩⟩ dX10_hasRoom_17

set_option maxHeartbeats 4000000 in
set_option maxRecDepth 100000 in
theorem c_X10_write (l : Launch) (D : va_G) (cy : Nat → ClassId) (a : Nat → Nat) (σ : St) (x : Int32) (n : Nat) (hn : σ.1 3 = nI n) (hn4 : n + 4 ≤ 400) : CV l yX10_write cX10_write 3 none (rmOf 1 21) D cy (wX cy a) (AX a) [.ref (a 1), .int x] σ (fun τ => K [0, 1, 7, 9, 10, 11, 12, 13, 14, 15] (23 :: [19, 20, 21, 22, 29, 30, 31, 33, 34, 35, 36, 38, 39, 40, 41, 42, 43, 44, 45, 46, 47, 48, 49, 50, 51, 52, 53, 54, 55, 56, 57, 58, 59]) σ τ ∧ τ.1 3 = nI (n + 4)) := by
  refine c_of (lv := [(0, .ref (a 1)), (1, .int x)]) rfl (Nat.le_of_ble_eq_true rfl) rfl ?_
  intro p e s m args below meth c ls E h hr hk hl
  have hx := E.1
  have hb := E.2.1
  refine lv_aload_n hx hb dX10_write_0 rfl (lv_at hl 0 rfl) ?_
  refine lv_iconst (v := 4) hx hb dX10_write_1 (by decide) ?_
  refine k_i h (q_runV (As := [.int 4]) (rest := []) E h (c_X10_hasRoom l D cy a σ 4 n hn (by omega) (by decide)) co_X10_hasRoom ml_X10_19 im_X10_hasRoom se_X10_hasRoom in_X10 (eX_1 cy a σ) rfl ok_X10_hasRoom rfl ⟨by decide, by decide⟩ hl.1 rfl (Nat.le_of_ble_eq_true rfl) dX10_write_2 ⟨Nat.zero_le _, Nat.zero_le _⟩) (wX_fst cy a) (fun r2 τ2 H locs p2 h => ?_)
  rw [p2.1] at h
  refine lv_if_ne (tgt := 9) hx hb dX10_write_5 (by decide) (fun c5 => ?_) (fun c5 => ?_)
  · refine lv_bipush (v := 24) hx hb dX10_write_9 (by decide) ?_
    refine lv_istore_n (lv' := [(2, .int 24), (0, .ref (a 1)), (1, .int x)]) hx hb dX10_write_11 rfl hl (by decide) rfl (fun ls hl => ?_)
    refine lv_iload_n hx hb dX10_write_12 rfl (lv_at hl 0 rfl) ?_
    refine lv_if_lt (tgt := 45) hx hb dX10_write_13 (by decide) (fun c13 => ?_) (fun c13 => ?_)
    · exact absurd c13 (by decide)
    · refine lv_aload_n hx hb dX10_write_16 rfl (lv_at hl 1 rfl) ?_
      refine r_get E h 0 (v := .ref (a 18)) (eX_1 cy a σ) rfl fw_X10 (by decide) fl_X10_9 rfl dX10_write_17 ?_
      refine lv_aload_n hx hb dX10_write_20 rfl (lv_at hl 1 rfl) ?_
      refine r_get E h 1 (v := .int (nI n)) (eX_1 cy a σ) rfl fw_X10 (by decide) fl_X10_15 (congrArg (fun z => some (Value.int z)) hn) dX10_write_21 ?_
      refine lv_iload_n hx hb dX10_write_24 rfl (lv_at hl 2 rfl) ?_
      refine lv_iload_n hx hb dX10_write_25 rfl (lv_at hl 0 rfl) ?_
      refine lv_ishr hx hb dX10_write_26 ?_
      refine lv_i2b hx hb dX10_write_27 rfl ?_
      refine r_bastN E h (f := σ.2.1 18) (eX_18 cy a σ) (j := n) (by omega) (by decide) (qX_18 cy a σ (upd (σ.2.1 18) n (vp_nar .byte ((x >>> (24 &&& 31)).toInt8.toInt32)))) dX10_write_28 (fun H locs h => ?_)
      refine lv_aload_n hx hb dX10_write_29 rfl (lv_at hl 1 rfl) ?_
      refine lv_dup hx hb dX10_write_30 rfl ?_
      refine r_get E h 1 (v := .int (nI n)) (eX_1 cy a (fR σ 18 (upd (σ.2.1 18) n (vp_nar .byte ((x >>> (24 &&& 31)).toInt8.toInt32))))) rfl fw_X10 (by decide) fl_X10_15 (congrArg (fun z => some (Value.int z)) hn) dX10_write_31 ?_
      refine lv_iconst (v := 1) hx hb dX10_write_34 (by decide) ?_
      refine n_add (j := n) (k := 1) hx hb dX10_write_35 ?_
      refine r_put E h 1 (ty := .int) (eX_1 cy a (fR σ 18 (upd (σ.2.1 18) n (vp_nar .byte ((x >>> (24 &&& 31)).toInt8.toInt32))))) rfl fw_X10 tyX10_ok nmX10 (by decide) fl_X10_15 rfl (by decide +kernel) rfl rfl (Nat.le_of_ble_eq_true rfl) (sX_3 cy a (fR σ 18 (upd (σ.2.1 18) n (vp_nar .byte ((x >>> (24 &&& 31)).toInt8.toInt32)))) (nI (n + 1))) dX10_write_36 (fun H locs h => ?_)
      refine lv_iinc (v := 16) (lv' := [(2, .int 16), (0, .ref (a 1)), (1, .int x)]) hx hb dX10_write_39 hl (k := 0) rfl (by decide) (by decide) rfl (fun ls hl => ?_)
      refine lv_goto (tgt := 12) hx hb dX10_write_42 (by decide) ?_
      refine lv_iload_n hx hb dX10_write_12 rfl (lv_at hl 0 rfl) ?_
      refine lv_if_lt (tgt := 45) hx hb dX10_write_13 (by decide) (fun c13 => ?_) (fun c13 => ?_)
      · exact absurd c13 (by decide)
      · refine lv_aload_n hx hb dX10_write_16 rfl (lv_at hl 1 rfl) ?_
        refine r_get E h 0 (v := .ref (a 18)) (eX_1 cy a (fF (fR σ 18 (upd (σ.2.1 18) n (vp_nar .byte ((x >>> (24 &&& 31)).toInt8.toInt32)))) 3 (nI (n + 1)))) rfl fw_X10 (by decide) fl_X10_9 rfl dX10_write_17 ?_
        refine lv_aload_n hx hb dX10_write_20 rfl (lv_at hl 1 rfl) ?_
        refine r_get E h 1 (v := .int (nI (n + 1))) (eX_1 cy a (fF (fR σ 18 (upd (σ.2.1 18) n (vp_nar .byte ((x >>> (24 &&& 31)).toInt8.toInt32)))) 3 (nI (n + 1)))) rfl fw_X10 (by decide) fl_X10_15 rfl dX10_write_21 ?_
        refine lv_iload_n hx hb dX10_write_24 rfl (lv_at hl 2 rfl) ?_
        refine lv_iload_n hx hb dX10_write_25 rfl (lv_at hl 0 rfl) ?_
        refine lv_ishr hx hb dX10_write_26 ?_
        refine lv_i2b hx hb dX10_write_27 rfl ?_
        refine r_bastN E h (f := upd (σ.2.1 18) n (vp_nar .byte ((x >>> (24 &&& 31)).toInt8.toInt32))) (eX_18 cy a (fF (fR σ 18 (upd (σ.2.1 18) n (vp_nar .byte ((x >>> (24 &&& 31)).toInt8.toInt32)))) 3 (nI (n + 1)))) (j := n + 1) (by omega) (by decide) (qX_18 cy a (fF (fR σ 18 (upd (σ.2.1 18) n (vp_nar .byte ((x >>> (24 &&& 31)).toInt8.toInt32)))) 3 (nI (n + 1))) (upd (upd (σ.2.1 18) n (vp_nar .byte ((x >>> (24 &&& 31)).toInt8.toInt32))) (n + 1) (vp_nar .byte ((x >>> (16 &&& 31)).toInt8.toInt32)))) dX10_write_28 (fun H locs h => ?_)
        refine lv_aload_n hx hb dX10_write_29 rfl (lv_at hl 1 rfl) ?_
        refine lv_dup hx hb dX10_write_30 rfl ?_
        refine r_get E h 1 (v := .int (nI (n + 1))) (eX_1 cy a (fR (fF (fR σ 18 (upd (σ.2.1 18) n (vp_nar .byte ((x >>> (24 &&& 31)).toInt8.toInt32)))) 3 (nI (n + 1))) 18 (upd (upd (σ.2.1 18) n (vp_nar .byte ((x >>> (24 &&& 31)).toInt8.toInt32))) (n + 1) (vp_nar .byte ((x >>> (16 &&& 31)).toInt8.toInt32))))) rfl fw_X10 (by decide) fl_X10_15 rfl dX10_write_31 ?_
        refine lv_iconst (v := 1) hx hb dX10_write_34 (by decide) ?_
        refine n_add (j := n + 1) (k := 1) hx hb dX10_write_35 ?_
        refine r_put E h 1 (ty := .int) (eX_1 cy a (fR (fF (fR σ 18 (upd (σ.2.1 18) n (vp_nar .byte ((x >>> (24 &&& 31)).toInt8.toInt32)))) 3 (nI (n + 1))) 18 (upd (upd (σ.2.1 18) n (vp_nar .byte ((x >>> (24 &&& 31)).toInt8.toInt32))) (n + 1) (vp_nar .byte ((x >>> (16 &&& 31)).toInt8.toInt32))))) rfl fw_X10 tyX10_ok nmX10 (by decide) fl_X10_15 rfl (by decide +kernel) rfl rfl (Nat.le_of_ble_eq_true rfl) (sX_3 cy a (fR (fF (fR σ 18 (upd (σ.2.1 18) n (vp_nar .byte ((x >>> (24 &&& 31)).toInt8.toInt32)))) 3 (nI (n + 1))) 18 (upd (upd (σ.2.1 18) n (vp_nar .byte ((x >>> (24 &&& 31)).toInt8.toInt32))) (n + 1) (vp_nar .byte ((x >>> (16 &&& 31)).toInt8.toInt32)))) (nI ((n + 1) + 1))) dX10_write_36 (fun H locs h => ?_)
        refine lv_iinc (v := 8) (lv' := [(2, .int 8), (0, .ref (a 1)), (1, .int x)]) hx hb dX10_write_39 hl (k := 0) rfl (by decide) (by decide) rfl (fun ls hl => ?_)
        refine lv_goto (tgt := 12) hx hb dX10_write_42 (by decide) ?_
        refine lv_iload_n hx hb dX10_write_12 rfl (lv_at hl 0 rfl) ?_
        refine lv_if_lt (tgt := 45) hx hb dX10_write_13 (by decide) (fun c13 => ?_) (fun c13 => ?_)
        · exact absurd c13 (by decide)
        · refine lv_aload_n hx hb dX10_write_16 rfl (lv_at hl 1 rfl) ?_
          refine r_get E h 0 (v := .ref (a 18)) (eX_1 cy a (fF (fR (fF (fR σ 18 (upd (σ.2.1 18) n (vp_nar .byte ((x >>> (24 &&& 31)).toInt8.toInt32)))) 3 (nI (n + 1))) 18 (upd (upd (σ.2.1 18) n (vp_nar .byte ((x >>> (24 &&& 31)).toInt8.toInt32))) (n + 1) (vp_nar .byte ((x >>> (16 &&& 31)).toInt8.toInt32)))) 3 (nI ((n + 1) + 1)))) rfl fw_X10 (by decide) fl_X10_9 rfl dX10_write_17 ?_
          refine lv_aload_n hx hb dX10_write_20 rfl (lv_at hl 1 rfl) ?_
          refine r_get E h 1 (v := .int (nI ((n + 1) + 1))) (eX_1 cy a (fF (fR (fF (fR σ 18 (upd (σ.2.1 18) n (vp_nar .byte ((x >>> (24 &&& 31)).toInt8.toInt32)))) 3 (nI (n + 1))) 18 (upd (upd (σ.2.1 18) n (vp_nar .byte ((x >>> (24 &&& 31)).toInt8.toInt32))) (n + 1) (vp_nar .byte ((x >>> (16 &&& 31)).toInt8.toInt32)))) 3 (nI ((n + 1) + 1)))) rfl fw_X10 (by decide) fl_X10_15 rfl dX10_write_21 ?_
          refine lv_iload_n hx hb dX10_write_24 rfl (lv_at hl 2 rfl) ?_
          refine lv_iload_n hx hb dX10_write_25 rfl (lv_at hl 0 rfl) ?_
          refine lv_ishr hx hb dX10_write_26 ?_
          refine lv_i2b hx hb dX10_write_27 rfl ?_
          refine r_bastN E h (f := upd (upd (σ.2.1 18) n (vp_nar .byte ((x >>> (24 &&& 31)).toInt8.toInt32))) (n + 1) (vp_nar .byte ((x >>> (16 &&& 31)).toInt8.toInt32))) (eX_18 cy a (fF (fR (fF (fR σ 18 (upd (σ.2.1 18) n (vp_nar .byte ((x >>> (24 &&& 31)).toInt8.toInt32)))) 3 (nI (n + 1))) 18 (upd (upd (σ.2.1 18) n (vp_nar .byte ((x >>> (24 &&& 31)).toInt8.toInt32))) (n + 1) (vp_nar .byte ((x >>> (16 &&& 31)).toInt8.toInt32)))) 3 (nI ((n + 1) + 1)))) (j := (n + 1) + 1) (by omega) (by decide) (qX_18 cy a (fF (fR (fF (fR σ 18 (upd (σ.2.1 18) n (vp_nar .byte ((x >>> (24 &&& 31)).toInt8.toInt32)))) 3 (nI (n + 1))) 18 (upd (upd (σ.2.1 18) n (vp_nar .byte ((x >>> (24 &&& 31)).toInt8.toInt32))) (n + 1) (vp_nar .byte ((x >>> (16 &&& 31)).toInt8.toInt32)))) 3 (nI ((n + 1) + 1))) (upd (upd (upd (σ.2.1 18) n (vp_nar .byte ((x >>> (24 &&& 31)).toInt8.toInt32))) (n + 1) (vp_nar .byte ((x >>> (16 &&& 31)).toInt8.toInt32))) ((n + 1) + 1) (vp_nar .byte ((x >>> (8 &&& 31)).toInt8.toInt32)))) dX10_write_28 (fun H locs h => ?_)
          refine lv_aload_n hx hb dX10_write_29 rfl (lv_at hl 1 rfl) ?_
          refine lv_dup hx hb dX10_write_30 rfl ?_
          refine r_get E h 1 (v := .int (nI ((n + 1) + 1))) (eX_1 cy a (fR (fF (fR (fF (fR σ 18 (upd (σ.2.1 18) n (vp_nar .byte ((x >>> (24 &&& 31)).toInt8.toInt32)))) 3 (nI (n + 1))) 18 (upd (upd (σ.2.1 18) n (vp_nar .byte ((x >>> (24 &&& 31)).toInt8.toInt32))) (n + 1) (vp_nar .byte ((x >>> (16 &&& 31)).toInt8.toInt32)))) 3 (nI ((n + 1) + 1))) 18 (upd (upd (upd (σ.2.1 18) n (vp_nar .byte ((x >>> (24 &&& 31)).toInt8.toInt32))) (n + 1) (vp_nar .byte ((x >>> (16 &&& 31)).toInt8.toInt32))) ((n + 1) + 1) (vp_nar .byte ((x >>> (8 &&& 31)).toInt8.toInt32))))) rfl fw_X10 (by decide) fl_X10_15 rfl dX10_write_31 ?_
          refine lv_iconst (v := 1) hx hb dX10_write_34 (by decide) ?_
          refine n_add (j := (n + 1) + 1) (k := 1) hx hb dX10_write_35 ?_
          refine r_put E h 1 (ty := .int) (eX_1 cy a (fR (fF (fR (fF (fR σ 18 (upd (σ.2.1 18) n (vp_nar .byte ((x >>> (24 &&& 31)).toInt8.toInt32)))) 3 (nI (n + 1))) 18 (upd (upd (σ.2.1 18) n (vp_nar .byte ((x >>> (24 &&& 31)).toInt8.toInt32))) (n + 1) (vp_nar .byte ((x >>> (16 &&& 31)).toInt8.toInt32)))) 3 (nI ((n + 1) + 1))) 18 (upd (upd (upd (σ.2.1 18) n (vp_nar .byte ((x >>> (24 &&& 31)).toInt8.toInt32))) (n + 1) (vp_nar .byte ((x >>> (16 &&& 31)).toInt8.toInt32))) ((n + 1) + 1) (vp_nar .byte ((x >>> (8 &&& 31)).toInt8.toInt32))))) rfl fw_X10 tyX10_ok nmX10 (by decide) fl_X10_15 rfl (by decide +kernel) rfl rfl (Nat.le_of_ble_eq_true rfl) (sX_3 cy a (fR (fF (fR (fF (fR σ 18 (upd (σ.2.1 18) n (vp_nar .byte ((x >>> (24 &&& 31)).toInt8.toInt32)))) 3 (nI (n + 1))) 18 (upd (upd (σ.2.1 18) n (vp_nar .byte ((x >>> (24 &&& 31)).toInt8.toInt32))) (n + 1) (vp_nar .byte ((x >>> (16 &&& 31)).toInt8.toInt32)))) 3 (nI ((n + 1) + 1))) 18 (upd (upd (upd (σ.2.1 18) n (vp_nar .byte ((x >>> (24 &&& 31)).toInt8.toInt32))) (n + 1) (vp_nar .byte ((x >>> (16 &&& 31)).toInt8.toInt32))) ((n + 1) + 1) (vp_nar .byte ((x >>> (8 &&& 31)).toInt8.toInt32)))) (nI (((n + 1) + 1) + 1))) dX10_write_36 (fun H locs h => ?_)
          refine lv_iinc (v := 0) (lv' := [(2, .int 0), (0, .ref (a 1)), (1, .int x)]) hx hb dX10_write_39 hl (k := 0) rfl (by decide) (by decide) rfl (fun ls hl => ?_)
          refine lv_goto (tgt := 12) hx hb dX10_write_42 (by decide) ?_
          refine lv_iload_n hx hb dX10_write_12 rfl (lv_at hl 0 rfl) ?_
          refine lv_if_lt (tgt := 45) hx hb dX10_write_13 (by decide) (fun c13 => ?_) (fun c13 => ?_)
          · exact absurd c13 (by decide)
          · refine lv_aload_n hx hb dX10_write_16 rfl (lv_at hl 1 rfl) ?_
            refine r_get E h 0 (v := .ref (a 18)) (eX_1 cy a (fF (fR (fF (fR (fF (fR σ 18 (upd (σ.2.1 18) n (vp_nar .byte ((x >>> (24 &&& 31)).toInt8.toInt32)))) 3 (nI (n + 1))) 18 (upd (upd (σ.2.1 18) n (vp_nar .byte ((x >>> (24 &&& 31)).toInt8.toInt32))) (n + 1) (vp_nar .byte ((x >>> (16 &&& 31)).toInt8.toInt32)))) 3 (nI ((n + 1) + 1))) 18 (upd (upd (upd (σ.2.1 18) n (vp_nar .byte ((x >>> (24 &&& 31)).toInt8.toInt32))) (n + 1) (vp_nar .byte ((x >>> (16 &&& 31)).toInt8.toInt32))) ((n + 1) + 1) (vp_nar .byte ((x >>> (8 &&& 31)).toInt8.toInt32)))) 3 (nI (((n + 1) + 1) + 1)))) rfl fw_X10 (by decide) fl_X10_9 rfl dX10_write_17 ?_
            refine lv_aload_n hx hb dX10_write_20 rfl (lv_at hl 1 rfl) ?_
            refine r_get E h 1 (v := .int (nI (((n + 1) + 1) + 1))) (eX_1 cy a (fF (fR (fF (fR (fF (fR σ 18 (upd (σ.2.1 18) n (vp_nar .byte ((x >>> (24 &&& 31)).toInt8.toInt32)))) 3 (nI (n + 1))) 18 (upd (upd (σ.2.1 18) n (vp_nar .byte ((x >>> (24 &&& 31)).toInt8.toInt32))) (n + 1) (vp_nar .byte ((x >>> (16 &&& 31)).toInt8.toInt32)))) 3 (nI ((n + 1) + 1))) 18 (upd (upd (upd (σ.2.1 18) n (vp_nar .byte ((x >>> (24 &&& 31)).toInt8.toInt32))) (n + 1) (vp_nar .byte ((x >>> (16 &&& 31)).toInt8.toInt32))) ((n + 1) + 1) (vp_nar .byte ((x >>> (8 &&& 31)).toInt8.toInt32)))) 3 (nI (((n + 1) + 1) + 1)))) rfl fw_X10 (by decide) fl_X10_15 rfl dX10_write_21 ?_
            refine lv_iload_n hx hb dX10_write_24 rfl (lv_at hl 2 rfl) ?_
            refine lv_iload_n hx hb dX10_write_25 rfl (lv_at hl 0 rfl) ?_
            refine lv_ishr hx hb dX10_write_26 ?_
            refine lv_i2b hx hb dX10_write_27 rfl ?_
            refine r_bastN E h (f := upd (upd (upd (σ.2.1 18) n (vp_nar .byte ((x >>> (24 &&& 31)).toInt8.toInt32))) (n + 1) (vp_nar .byte ((x >>> (16 &&& 31)).toInt8.toInt32))) ((n + 1) + 1) (vp_nar .byte ((x >>> (8 &&& 31)).toInt8.toInt32))) (eX_18 cy a (fF (fR (fF (fR (fF (fR σ 18 (upd (σ.2.1 18) n (vp_nar .byte ((x >>> (24 &&& 31)).toInt8.toInt32)))) 3 (nI (n + 1))) 18 (upd (upd (σ.2.1 18) n (vp_nar .byte ((x >>> (24 &&& 31)).toInt8.toInt32))) (n + 1) (vp_nar .byte ((x >>> (16 &&& 31)).toInt8.toInt32)))) 3 (nI ((n + 1) + 1))) 18 (upd (upd (upd (σ.2.1 18) n (vp_nar .byte ((x >>> (24 &&& 31)).toInt8.toInt32))) (n + 1) (vp_nar .byte ((x >>> (16 &&& 31)).toInt8.toInt32))) ((n + 1) + 1) (vp_nar .byte ((x >>> (8 &&& 31)).toInt8.toInt32)))) 3 (nI (((n + 1) + 1) + 1)))) (j := ((n + 1) + 1) + 1) (by omega) (by decide) (qX_18 cy a (fF (fR (fF (fR (fF (fR σ 18 (upd (σ.2.1 18) n (vp_nar .byte ((x >>> (24 &&& 31)).toInt8.toInt32)))) 3 (nI (n + 1))) 18 (upd (upd (σ.2.1 18) n (vp_nar .byte ((x >>> (24 &&& 31)).toInt8.toInt32))) (n + 1) (vp_nar .byte ((x >>> (16 &&& 31)).toInt8.toInt32)))) 3 (nI ((n + 1) + 1))) 18 (upd (upd (upd (σ.2.1 18) n (vp_nar .byte ((x >>> (24 &&& 31)).toInt8.toInt32))) (n + 1) (vp_nar .byte ((x >>> (16 &&& 31)).toInt8.toInt32))) ((n + 1) + 1) (vp_nar .byte ((x >>> (8 &&& 31)).toInt8.toInt32)))) 3 (nI (((n + 1) + 1) + 1))) (upd (upd (upd (upd (σ.2.1 18) n (vp_nar .byte ((x >>> (24 &&& 31)).toInt8.toInt32))) (n + 1) (vp_nar .byte ((x >>> (16 &&& 31)).toInt8.toInt32))) ((n + 1) + 1) (vp_nar .byte ((x >>> (8 &&& 31)).toInt8.toInt32))) (((n + 1) + 1) + 1) (vp_nar .byte ((x >>> (0 &&& 31)).toInt8.toInt32)))) dX10_write_28 (fun H locs h => ?_)
            refine lv_aload_n hx hb dX10_write_29 rfl (lv_at hl 1 rfl) ?_
            refine lv_dup hx hb dX10_write_30 rfl ?_
            refine r_get E h 1 (v := .int (nI (((n + 1) + 1) + 1))) (eX_1 cy a (fR (fF (fR (fF (fR (fF (fR σ 18 (upd (σ.2.1 18) n (vp_nar .byte ((x >>> (24 &&& 31)).toInt8.toInt32)))) 3 (nI (n + 1))) 18 (upd (upd (σ.2.1 18) n (vp_nar .byte ((x >>> (24 &&& 31)).toInt8.toInt32))) (n + 1) (vp_nar .byte ((x >>> (16 &&& 31)).toInt8.toInt32)))) 3 (nI ((n + 1) + 1))) 18 (upd (upd (upd (σ.2.1 18) n (vp_nar .byte ((x >>> (24 &&& 31)).toInt8.toInt32))) (n + 1) (vp_nar .byte ((x >>> (16 &&& 31)).toInt8.toInt32))) ((n + 1) + 1) (vp_nar .byte ((x >>> (8 &&& 31)).toInt8.toInt32)))) 3 (nI (((n + 1) + 1) + 1))) 18 (upd (upd (upd (upd (σ.2.1 18) n (vp_nar .byte ((x >>> (24 &&& 31)).toInt8.toInt32))) (n + 1) (vp_nar .byte ((x >>> (16 &&& 31)).toInt8.toInt32))) ((n + 1) + 1) (vp_nar .byte ((x >>> (8 &&& 31)).toInt8.toInt32))) (((n + 1) + 1) + 1) (vp_nar .byte ((x >>> (0 &&& 31)).toInt8.toInt32))))) rfl fw_X10 (by decide) fl_X10_15 rfl dX10_write_31 ?_
            refine lv_iconst (v := 1) hx hb dX10_write_34 (by decide) ?_
            refine n_add (j := ((n + 1) + 1) + 1) (k := 1) hx hb dX10_write_35 ?_
            refine r_put E h 1 (ty := .int) (eX_1 cy a (fR (fF (fR (fF (fR (fF (fR σ 18 (upd (σ.2.1 18) n (vp_nar .byte ((x >>> (24 &&& 31)).toInt8.toInt32)))) 3 (nI (n + 1))) 18 (upd (upd (σ.2.1 18) n (vp_nar .byte ((x >>> (24 &&& 31)).toInt8.toInt32))) (n + 1) (vp_nar .byte ((x >>> (16 &&& 31)).toInt8.toInt32)))) 3 (nI ((n + 1) + 1))) 18 (upd (upd (upd (σ.2.1 18) n (vp_nar .byte ((x >>> (24 &&& 31)).toInt8.toInt32))) (n + 1) (vp_nar .byte ((x >>> (16 &&& 31)).toInt8.toInt32))) ((n + 1) + 1) (vp_nar .byte ((x >>> (8 &&& 31)).toInt8.toInt32)))) 3 (nI (((n + 1) + 1) + 1))) 18 (upd (upd (upd (upd (σ.2.1 18) n (vp_nar .byte ((x >>> (24 &&& 31)).toInt8.toInt32))) (n + 1) (vp_nar .byte ((x >>> (16 &&& 31)).toInt8.toInt32))) ((n + 1) + 1) (vp_nar .byte ((x >>> (8 &&& 31)).toInt8.toInt32))) (((n + 1) + 1) + 1) (vp_nar .byte ((x >>> (0 &&& 31)).toInt8.toInt32))))) rfl fw_X10 tyX10_ok nmX10 (by decide) fl_X10_15 rfl (by decide +kernel) rfl rfl (Nat.le_of_ble_eq_true rfl) (sX_3 cy a (fR (fF (fR (fF (fR (fF (fR σ 18 (upd (σ.2.1 18) n (vp_nar .byte ((x >>> (24 &&& 31)).toInt8.toInt32)))) 3 (nI (n + 1))) 18 (upd (upd (σ.2.1 18) n (vp_nar .byte ((x >>> (24 &&& 31)).toInt8.toInt32))) (n + 1) (vp_nar .byte ((x >>> (16 &&& 31)).toInt8.toInt32)))) 3 (nI ((n + 1) + 1))) 18 (upd (upd (upd (σ.2.1 18) n (vp_nar .byte ((x >>> (24 &&& 31)).toInt8.toInt32))) (n + 1) (vp_nar .byte ((x >>> (16 &&& 31)).toInt8.toInt32))) ((n + 1) + 1) (vp_nar .byte ((x >>> (8 &&& 31)).toInt8.toInt32)))) 3 (nI (((n + 1) + 1) + 1))) 18 (upd (upd (upd (upd (σ.2.1 18) n (vp_nar .byte ((x >>> (24 &&& 31)).toInt8.toInt32))) (n + 1) (vp_nar .byte ((x >>> (16 &&& 31)).toInt8.toInt32))) ((n + 1) + 1) (vp_nar .byte ((x >>> (8 &&& 31)).toInt8.toInt32))) (((n + 1) + 1) + 1) (vp_nar .byte ((x >>> (0 &&& 31)).toInt8.toInt32)))) (nI ((((n + 1) + 1) + 1) + 1))) dX10_write_36 (fun H locs h => ?_)
            refine lv_iinc (v := (-8)) (lv' := [(2, .int (-8)), (0, .ref (a 1)), (1, .int x)]) hx hb dX10_write_39 hl (k := 0) rfl (by decide) (by decide) rfl (fun ls hl => ?_)
            refine lv_goto (tgt := 12) hx hb dX10_write_42 (by decide) ?_
            refine lv_iload_n hx hb dX10_write_12 rfl (lv_at hl 0 rfl) ?_
            refine lv_if_lt (tgt := 45) hx hb dX10_write_13 (by decide) (fun c13 => ?_) (fun c13 => ?_)
            · exact t_v E h hr hk ⟨((((((((K.rf.R 18 _ (by decide)).F 3 _ (by decide)).R 18 _ (by decide)).F 3 _ (by decide)).R 18 _ (by decide)).F 3 _ (by decide)).R 18 _ (by decide)).F 3 _ (by decide)), rfl⟩ dX10_write_45
            · exact absurd c13 (by decide)
  · exact absurd (p2.2.elim (fun q => absurd (c5.symm.trans q.1) (by decide)) (fun q => q.2)) (by omega)

set_option maxHeartbeats 4000000 in
set_option maxRecDepth 100000 in
theorem c_X10_byteAt (l : Launch) (D : va_G) (cy : Nat → ClassId) (a : Nat → Nat) (σ : St) (x : Int32) (n : Nat) (hn : σ.1 3 = nI n) (hn4 : n ≤ 400) : CI l yX10_byteAt cX10_byteAt 2 (some .int) (rmOf 0 0) D cy (wX cy a) (AX a) [.ref (a 1), .int x] σ (fun _ τ => τ = σ ∧ True) := by
  refine c_of (lv := [(0, .ref (a 1)), (1, .int x)]) rfl (Nat.le_of_ble_eq_true rfl) rfl ?_
  intro p e s m args below meth c ls E h hr hk hl
  have hx := E.1
  have hb := E.2.1
  refine lv_iload_n hx hb dX10_byteAt_0 rfl (lv_at hl 1 rfl) ?_
  refine lv_if_lt (tgt := 25) hx hb dX10_byteAt_1 (by decide) (fun c1 => ?_) (fun c1 => ?_)
  · refine lv_iconst (v := -1) hx hb dX10_byteAt_25 (by decide) ?_
    exact t_i E h hr hk ⟨rfl, trivial⟩ dX10_byteAt_26
  · refine lv_iload_n hx hb dX10_byteAt_4 rfl (lv_at hl 1 rfl) ?_
    refine lv_aload_n hx hb dX10_byteAt_5 rfl (lv_at hl 0 rfl) ?_
    refine r_get E h 1 (v := .int (nI n)) (eX_1 cy a σ) rfl fw_X10 (by decide) fl_X10_15 (congrArg (fun z => some (Value.int z)) hn) dX10_byteAt_6 ?_
    refine lv_icmp_ge (tgt := 25) hx hb dX10_byteAt_9 (by decide) (fun c9 => ?_) (fun c9 => ?_)
    · refine lv_iconst (v := -1) hx hb dX10_byteAt_25 (by decide) ?_
      exact t_i E h hr hk ⟨rfl, trivial⟩ dX10_byteAt_26
    · have hin : vp_in x 400 := by
        obtain ⟨j, hj, rfl⟩ := nI_of c1
        exact vp_in_nI (Nat.lt_of_lt_of_le (Nat.lt_of_not_le fun q9 => c9 ((nI_leI (by omega) hj).mpr q9)) hn4) (by decide)
      refine lv_aload_n hx hb dX10_byteAt_12 rfl (lv_at hl 0 rfl) ?_
      refine r_get E h 0 (v := .ref (a 18)) (eX_1 cy a σ) rfl fw_X10 (by decide) fl_X10_9 rfl dX10_byteAt_13 ?_
      refine lv_iload_n hx hb dX10_byteAt_16 rfl (lv_at hl 1 rfl) ?_
      refine r_bald E h (f := σ.2.1 18) (eX_18 cy a σ) hin dX10_byteAt_17 ?_
      refine lv_sipush (v := 255) hx hb dX10_byteAt_18 (by decide) ?_
      refine lv_iand hx hb dX10_byteAt_21 ?_
      refine lv_goto (tgt := 26) hx hb dX10_byteAt_22 (by decide) ?_
      exact t_i E h hr hk ⟨rfl, trivial⟩ dX10_byteAt_26

set_option maxHeartbeats 4000000 in
set_option maxRecDepth 100000 in
theorem c_X11_feed (l : Launch) (D : va_G) (cy : Nat → ClassId) (a : Nat → Nat) (σ : St) (x y w v u : Int32) (n : Nat) (hn : σ.1 3 = nI n) (hn4 : n ≤ 400) : CI l yX11_feed cX11_feed 6 (some .int) (rmOf 2 43) D cy (wX cy a) (AX a) [.ref (a 0), .int x, .int y, .int w, .int v, .int u] σ (fun r τ => (400 < n + 20 ∧ r = -1 ∧ τ = σ) ∨ (n + 20 ≤ 400 ∧ r = nI (n + 20) ∧ τ.1 3 = nI (n + 20) ∧ K [0, 1, 7, 9, 10, 11, 12, 13, 14, 15] (23 :: [19, 20, 21, 22, 29, 30, 31, 33, 34, 35, 36, 38, 39, 40, 41, 42, 43, 44, 45, 46, 47, 48, 49, 50, 51, 52, 53, 54, 55, 56, 57, 58, 59]) σ τ)) := by
  refine c_of (lv := [(0, .ref (a 0)), (1, .int x), (2, .int y), (3, .int w), (4, .int v), (5, .int u)]) rfl (Nat.le_of_ble_eq_true rfl) rfl ?_
  intro p e s m args below meth c ls E h hr hk hl
  have hx := E.1
  have hb := E.2.1
  refine lv_aload_n hx hb dX11_feed_0 rfl (lv_at hl 0 rfl) ?_
  refine r_get E h 0 (v := .ref (a 1)) (eX_0 cy a σ) rfl fw_X11 (by decide) fl_X11_12 rfl dX11_feed_1 ?_
  refine lv_bipush (v := 20) hx hb dX11_feed_4 (by decide) ?_
  refine k_i h (q_runV (As := [.int 20]) (rest := []) E h (c_X10_hasRoom l D cy a σ 20 n hn hn4 (by decide)) co_X10_hasRoom ml_X11_155 im_X10_hasRoom se_X10_hasRoom in_X10 (eX_1 cy a σ) rfl ok_X10_hasRoom rfl ⟨by decide, by decide⟩ hl.1 rfl (Nat.le_of_ble_eq_true rfl) dX11_feed_6 ⟨Nat.zero_le _, Nat.zero_le _⟩) (wX_fst cy a) (fun r6 τ6 H locs p6 h => ?_)
  rw [p6.1] at h
  refine lv_if_ne (tgt := 14) hx hb dX11_feed_9 (by decide) (fun c9 => ?_) (fun c9 => ?_)
  · have c9 : n + 20 ≤ 400 := p6.2.elim (fun q => q.2) (fun q => absurd q.1 c9)
    refine lv_aload_n hx hb dX11_feed_14 rfl (lv_at hl 0 rfl) ?_
    refine r_get E h 0 (v := .ref (a 1)) (eX_0 cy a σ) rfl fw_X11 (by decide) fl_X11_12 rfl dX11_feed_15 ?_
    refine lv_iload_n hx hb dX11_feed_18 rfl (lv_at hl 1 rfl) ?_
    refine k_v h (q_runV (As := [.int x]) (rest := []) E h (c_X10_write l D cy a σ x (n + 0) hn (by omega)) co_X10_write ml_X11_158 im_X10_write se_X10_write in_X10 (eX_1 cy a σ) rfl ok_X10_write rfl ⟨by decide, by decide⟩ hl.1 rfl (Nat.le_of_ble_eq_true rfl) dX11_feed_19 ⟨Nat.zero_le _, Nat.zero_le _⟩) (wX_fst cy a) (fun τ19 H locs p19 h => ?_)
    refine lv_aload_n hx hb dX11_feed_22 rfl (lv_at hl 0 rfl) ?_
    refine r_get E h 0 (v := .ref (a 1)) (eX_0 cy a τ19) rfl fw_X11 (by decide) fl_X11_12 rfl dX11_feed_23 ?_
    refine lv_iload_n hx hb dX11_feed_26 rfl (lv_at hl 2 rfl) ?_
    refine k_v h (q_runV (As := [.int y]) (rest := []) E h (c_X10_write l D cy a τ19 y (n + 4) p19.2 (by omega)) co_X10_write ml_X11_158 im_X10_write se_X10_write in_X10 (eX_1 cy a τ19) rfl ok_X10_write rfl ⟨by decide, by decide⟩ hl.1 rfl (Nat.le_of_ble_eq_true rfl) dX11_feed_27 ⟨Nat.zero_le _, Nat.zero_le _⟩) (wX_fst cy a) (fun τ27 H locs p27 h => ?_)
    refine lv_aload_n hx hb dX11_feed_30 rfl (lv_at hl 0 rfl) ?_
    refine r_get E h 0 (v := .ref (a 1)) (eX_0 cy a τ27) rfl fw_X11 (by decide) fl_X11_12 rfl dX11_feed_31 ?_
    refine lv_iload_n hx hb dX11_feed_34 rfl (lv_at hl 3 rfl) ?_
    refine k_v h (q_runV (As := [.int w]) (rest := []) E h (c_X10_write l D cy a τ27 w (n + 8) p27.2 (by omega)) co_X10_write ml_X11_158 im_X10_write se_X10_write in_X10 (eX_1 cy a τ27) rfl ok_X10_write rfl ⟨by decide, by decide⟩ hl.1 rfl (Nat.le_of_ble_eq_true rfl) dX11_feed_35 ⟨Nat.zero_le _, Nat.zero_le _⟩) (wX_fst cy a) (fun τ35 H locs p35 h => ?_)
    refine lv_aload_n hx hb dX11_feed_38 rfl (lv_at hl 0 rfl) ?_
    refine r_get E h 0 (v := .ref (a 1)) (eX_0 cy a τ35) rfl fw_X11 (by decide) fl_X11_12 rfl dX11_feed_39 ?_
    refine lv_iload hx hb dX11_feed_42 (lv_at hl 4 rfl) ?_
    refine k_v h (q_runV (As := [.int v]) (rest := []) E h (c_X10_write l D cy a τ35 v (n + 12) p35.2 (by omega)) co_X10_write ml_X11_158 im_X10_write se_X10_write in_X10 (eX_1 cy a τ35) rfl ok_X10_write rfl ⟨by decide, by decide⟩ hl.1 rfl (Nat.le_of_ble_eq_true rfl) dX11_feed_44 ⟨Nat.zero_le _, Nat.zero_le _⟩) (wX_fst cy a) (fun τ44 H locs p44 h => ?_)
    refine lv_aload_n hx hb dX11_feed_47 rfl (lv_at hl 0 rfl) ?_
    refine r_get E h 0 (v := .ref (a 1)) (eX_0 cy a τ44) rfl fw_X11 (by decide) fl_X11_12 rfl dX11_feed_48 ?_
    refine lv_iload hx hb dX11_feed_51 (lv_at hl 5 rfl) ?_
    refine k_v h (q_runV (As := [.int u]) (rest := []) E h (c_X10_write l D cy a τ44 u (n + 16) p44.2 (by omega)) co_X10_write ml_X11_158 im_X10_write se_X10_write in_X10 (eX_1 cy a τ44) rfl ok_X10_write rfl ⟨by decide, by decide⟩ hl.1 rfl (Nat.le_of_ble_eq_true rfl) dX11_feed_53 ⟨Nat.zero_le _, Nat.zero_le _⟩) (wX_fst cy a) (fun τ53 H locs p53 h => ?_)
    refine lv_aload_n hx hb dX11_feed_56 rfl (lv_at hl 0 rfl) ?_
    refine r_get E h 0 (v := .ref (a 1)) (eX_0 cy a τ53) rfl fw_X11 (by decide) fl_X11_12 rfl dX11_feed_57 ?_
    refine r_get E h 1 (v := .int (nI (n + 20))) (eX_1 cy a τ53) rfl fw_X10 (by decide) fl_X11_161 (congrArg (fun z => some (Value.int z)) p53.2) dX11_feed_60 ?_
    exact t_i E h hr hk (Or.inr ⟨c9, rfl, p53.2, (((p19.1.tr p27.1).tr p35.1).tr p44.1).tr p53.1⟩) dX11_feed_63
  · have c9 : 400 < n + 20 := p6.2.elim (fun q => absurd (c9.symm.trans q.1) (by decide)) (fun q => q.2)
    refine lv_iconst (v := -1) hx hb dX11_feed_12 (by decide) ?_
    exact t_i E h hr hk (Or.inl ⟨c9, rfl, rfl⟩) dX11_feed_13

set_option maxHeartbeats 4000000 in
set_option maxRecDepth 100000 in
theorem c_X11_end (l : Launch) (D : va_G) (cy : Nat → ClassId) (a : Nat → Nat) (σ : St) (x : Int32) (n : Nat) (hn : σ.1 3 = nI n) : CI l yX11_end cX11_end 2 (some .int) (rmOf 1 22) D cy (wX cy a) (AX a) [.ref (a 0), .int x] σ (fun r τ => (¬ ((0 : Int32) ≤ x ∧ x ≤ nI n) ∧ r = -1 ∧ τ = σ) ∨ (((0 : Int32) ≤ x ∧ x ≤ nI n) ∧ r = x ∧ τ = fF σ 3 x)) := by
  refine c_of (lv := [(0, .ref (a 0)), (1, .int x)]) rfl (Nat.le_of_ble_eq_true rfl) rfl ?_
  intro p e s m args below meth c ls E h hr hk hl
  have hx := E.1
  have hb := E.2.1
  refine lv_iload_n hx hb dX11_end_0 rfl (lv_at hl 1 rfl) ?_
  refine lv_iconst (v := 0) hx hb dX11_end_1 (by decide) ?_
  refine lv_aload_n hx hb dX11_end_2 rfl (lv_at hl 0 rfl) ?_
  refine r_get E h 0 (v := .ref (a 1)) (eX_0 cy a σ) rfl fw_X11 (by decide) fl_X11_12 rfl dX11_end_3 ?_
  refine r_get E h 1 (v := .int (nI n)) (eX_1 cy a σ) rfl fw_X10 (by decide) fl_X11_161 (congrArg (fun z => some (Value.int z)) hn) dX11_end_6 ?_
  refine k_i h (q_runS (As := [.int x, .int 0, .int (nI n)]) (rest := []) E h (c_X11_isWithin l D cy a σ x 0 (nI n)) co_X11_isWithin ml_X11_86 st_X11_isWithin in_X11 rfl ok_X11_isWithin rfl ⟨by decide, by decide⟩ hl.1 rfl (Nat.le_of_ble_eq_true rfl) dX11_end_9 ⟨Nat.zero_le _, Nat.zero_le _⟩) (wX_fst cy a) (fun r9 τ9 H locs p9 h => ?_)
  rw [p9.1] at h
  refine lv_if_ne (tgt := 17) hx hb dX11_end_12 (by decide) (fun c12 => ?_) (fun c12 => ?_)
  · refine lv_aload_n hx hb dX11_end_17 rfl (lv_at hl 0 rfl) ?_
    refine r_get E h 0 (v := .ref (a 1)) (eX_0 cy a σ) rfl fw_X11 (by decide) fl_X11_12 rfl dX11_end_18 ?_
    refine lv_iload_n hx hb dX11_end_21 rfl (lv_at hl 1 rfl) ?_
    refine r_put E h 1 (ty := .int) (eX_1 cy a σ) rfl fw_X10 tyX10_ok nmX10 (by decide) fl_X11_161 rfl (by decide +kernel) rfl rfl (Nat.le_of_ble_eq_true rfl) (sX_3 cy a σ x) dX11_end_22 (fun H locs h => ?_)
    refine lv_iload_n hx hb dX11_end_25 rfl (lv_at hl 1 rfl) ?_
    exact t_i E h hr hk (Or.inr ⟨p9.2.t c12, rfl, rfl⟩) dX11_end_26
  · refine lv_iconst (v := -1) hx hb dX11_end_15 (by decide) ?_
    exact t_i E h hr hk (Or.inl ⟨p9.2.f c12, rfl, rfl⟩) dX11_end_16

set_option maxHeartbeats 4000000 in
set_option maxRecDepth 100000 in
theorem c_X11_count (l : Launch) (D : va_G) (cy : Nat → ClassId) (a : Nat → Nat) (σ : St) (x : Int32)  : CI l yX11_count cX11_count 2 (some .int) (rmOf 0 0) D cy (wX cy a) (AX a) [.ref (a 0), .int x] σ (fun _ τ => K cF cA σ τ) := by
  refine c_of (lv := [(0, .ref (a 0)), (1, .int x)]) rfl (Nat.le_of_ble_eq_true rfl) rfl ?_
  intro p e s m args below meth c ls E h hr hk hl
  have hx := E.1
  have hb := E.2.1
  refine lv_iload_n hx hb dX11_count_0 rfl (lv_at hl 1 rfl) ?_
  by_cases sw1 : x.toInt < 0 ∨ 10 < x.toInt
  · refine lv_tableOut (tgt := 142) hx hb dX11_count_1 sw1 (by decide) ?_
    refine lv_iconst (v := -1) hx hb dX11_count_142 (by decide) ?_
    exact t_i E h hr hk K.rf dX11_count_143
  · rcases (show x.toInt = 0 ∨ x.toInt = 1 ∨ x.toInt = 2 ∨ x.toInt = 3 ∨ x.toInt = 4 ∨ x.toInt = 5 ∨ x.toInt = 6 ∨ x.toInt = 7 ∨ x.toInt = 8 ∨ x.toInt = 9 ∨ x.toInt = 10 by omega) with e1 | e1 | e1 | e1 | e1 | e1 | e1 | e1 | e1 | e1 | e1
    · refine lv_tableIn (tgt := 60) hx hb dX11_count_1 (by omega) (by omega) (by rw [e1]; rfl) (by decide) ?_
      refine lv_aload_n hx hb dX11_count_60 rfl (lv_at hl 0 rfl) ?_
      refine r_get E h 12 (v := .int (σ.1 1)) (eX_0 cy a σ) rfl fw_X11 (by decide) fl_X11_130 rfl dX11_count_61 ?_
      exact t_i E h hr hk K.rf dX11_count_64
    · refine lv_tableIn (tgt := 65) hx hb dX11_count_1 (by omega) (by omega) (by rw [e1]; rfl) (by decide) ?_
      refine lv_aload_n hx hb dX11_count_65 rfl (lv_at hl 0 rfl) ?_
      refine r_get E h 4 (v := .ref (a 6)) (eX_0 cy a σ) rfl fw_X11 (by decide) fl_X11_42 rfl dX11_count_66 ?_
      refine r_get E h 5 (v := .int (σ.1 10)) (eX_6 cy a σ) rfl fw_X9 (by decide) fl_X11_232 rfl dX11_count_69 ?_
      exact t_i E h hr hk K.rf dX11_count_72
    · refine lv_tableIn (tgt := 73) hx hb dX11_count_1 (by omega) (by omega) (by rw [e1]; rfl) (by decide) ?_
      refine lv_aload_n hx hb dX11_count_73 rfl (lv_at hl 0 rfl) ?_
      refine r_get E h 5 (v := .ref (a 7)) (eX_0 cy a σ) rfl fw_X11 (by decide) fl_X11_49 rfl dX11_count_74 ?_
      refine r_get E h 4 (v := .int (σ.1 12)) (eX_7 cy a σ) rfl fw_X0 (by decide) fl_X11_235 rfl dX11_count_77 ?_
      exact t_i E h hr hk K.rf dX11_count_80
    · refine lv_tableIn (tgt := 81) hx hb dX11_count_1 (by omega) (by omega) (by rw [e1]; rfl) (by decide) ?_
      refine lv_aload_n hx hb dX11_count_81 rfl (lv_at hl 0 rfl) ?_
      refine r_get E h 6 (v := .ref (a 8)) (eX_0 cy a σ) rfl fw_X11 (by decide) fl_X11_56 rfl dX11_count_82 ?_
      refine r_get E h 6 (v := .int (σ.1 13)) (eX_8 cy a σ) rfl fw_X6 (by decide) fl_X11_236 rfl dX11_count_85 ?_
      exact t_i E h hr hk K.rf dX11_count_88
    · refine lv_tableIn (tgt := 89) hx hb dX11_count_1 (by omega) (by omega) (by rw [e1]; rfl) (by decide) ?_
      refine lv_aload_n hx hb dX11_count_89 rfl (lv_at hl 0 rfl) ?_
      refine r_get E h 11 (v := .int (σ.1 0)) (eX_0 cy a σ) rfl fw_X11 (by decide) fl_X11_114 rfl dX11_count_90 ?_
      exact t_i E h hr hk K.rf dX11_count_93
    · refine lv_tableIn (tgt := 94) hx hb dX11_count_1 (by omega) (by omega) (by rw [e1]; rfl) (by decide) ?_
      refine lv_aload_n hx hb dX11_count_94 rfl (lv_at hl 0 rfl) ?_
      refine r_get E h 3 (v := .ref (a 5)) (eX_0 cy a σ) rfl fw_X11 (by decide) fl_X11_35 rfl dX11_count_95 ?_
      refine r_get E h 4 (v := .int (σ.1 9)) (eX_5 cy a σ) rfl fw_X1 (by decide) fl_X11_237 rfl dX11_count_98 ?_
      exact t_i E h hr hk K.rf dX11_count_101
    · refine lv_tableIn (tgt := 102) hx hb dX11_count_1 (by omega) (by omega) (by rw [e1]; rfl) (by decide) ?_
      refine lv_aload_n hx hb dX11_count_102 rfl (lv_at hl 0 rfl) ?_
      refine r_get E h 7 (v := .ref (a 9)) (eX_0 cy a σ) rfl fw_X11 (by decide) fl_X11_65 rfl dX11_count_103 ?_
      refine r_get E h 4 (v := .int (σ.1 14)) (eX_9 cy a σ) rfl fw_X8 (by decide) fl_X11_238 rfl dX11_count_106 ?_
      exact t_i E h hr hk K.rf dX11_count_109
    · refine lv_tableIn (tgt := 110) hx hb dX11_count_1 (by omega) (by omega) (by rw [e1]; rfl) (by decide) ?_
      refine lv_aload_n hx hb dX11_count_110 rfl (lv_at hl 0 rfl) ?_
      refine r_get E h 8 (v := .ref (a 10)) (eX_0 cy a σ) rfl fw_X11 (by decide) fl_X11_69 rfl dX11_count_111 ?_
      refine r_get E h 4 (v := .int (σ.1 15)) (eX_10 cy a σ) rfl fw_X8 (by decide) fl_X11_238 rfl dX11_count_114 ?_
      exact t_i E h hr hk K.rf dX11_count_117
    · refine lv_tableIn (tgt := 118) hx hb dX11_count_1 (by omega) (by omega) (by rw [e1]; rfl) (by decide) ?_
      refine lv_aload_n hx hb dX11_count_118 rfl (lv_at hl 0 rfl) ?_
      refine r_get E h 2 (v := .ref (a 3)) (eX_0 cy a σ) rfl fw_X11 (by decide) fl_X11_28 rfl dX11_count_119 ?_
      refine r_get E h 5 (v := .int (σ.1 7)) (eX_3 cy a σ) rfl fw_X4 (by decide) fl_X11_175 rfl dX11_count_122 ?_
      exact t_i E h hr hk K.rf dX11_count_125
    · refine lv_tableIn (tgt := 126) hx hb dX11_count_1 (by omega) (by omega) (by rw [e1]; rfl) (by decide) ?_
      refine lv_aload_n hx hb dX11_count_126 rfl (lv_at hl 0 rfl) ?_
      refine r_get E h 0 (v := .ref (a 1)) (eX_0 cy a σ) rfl fw_X11 (by decide) fl_X11_12 rfl dX11_count_127 ?_
      refine r_get E h 1 (v := .int (σ.1 3)) (eX_1 cy a σ) rfl fw_X10 (by decide) fl_X11_161 rfl dX11_count_130 ?_
      exact t_i E h hr hk K.rf dX11_count_133
    · refine lv_tableIn (tgt := 134) hx hb dX11_count_1 (by omega) (by omega) (by rw [e1]; rfl) (by decide) ?_
      refine lv_aload_n hx hb dX11_count_134 rfl (lv_at hl 0 rfl) ?_
      refine r_get E h 4 (v := .ref (a 6)) (eX_0 cy a σ) rfl fw_X11 (by decide) fl_X11_42 rfl dX11_count_135 ?_
      refine r_get E h 6 (v := .int (σ.1 11)) (eX_6 cy a σ) rfl fw_X9 (by decide) fl_X11_239 rfl dX11_count_138 ?_
      exact t_i E h hr hk K.rf dX11_count_141

set_option maxHeartbeats 4000000 in
set_option maxRecDepth 100000 in
theorem c_X11_at (l : Launch) (D : va_G) (cy : Nat → ClassId) (a : Nat → Nat) (σ : St) (x y w v : Int32) (g : GX σ) : CI l yX11_at cX11_at 5 (some .int) (rmOf 6 138) D cy (wX cy a) (AX a) [.ref (a 0), .int x, .int y, .int w, .int v] σ (fun _ τ => K cF cA σ τ) := by
  refine c_of (lv := [(0, .ref (a 0)), (1, .int x), (2, .int y), (3, .int w), (4, .int v)]) rfl (Nat.le_of_ble_eq_true rfl) rfl ?_
  intro p e s m args below meth c ls E h hr hk hl
  have hx := E.1
  have hb := E.2.1
  obtain ⟨n, hn2, hn, hN⟩ := gx_ca g
  refine lv_aload_n hx hb dX11_at_0 rfl (lv_at hl 0 rfl) ?_
  refine r_get E h 5 (v := .ref (a 7)) (eX_0 cy a σ) rfl fw_X11 (by decide) fl_X11_49 rfl dX11_at_1 ?_
  refine lv_iload_n hx hb dX11_at_4 rfl (lv_at hl 1 rfl) ?_
  refine k_i h (q_runV (As := [.int x]) (rest := []) E h (c_X0_has l D cy a σ x) co_X0_has ml_X11_127 im_X0_has se_X0_has in_X0 (eX_7 cy a σ) rfl ok_X0_has rfl ⟨by decide, by decide⟩ hl.1 rfl (Nat.le_of_ble_eq_true rfl) dX11_at_5 ⟨Nat.zero_le _, Nat.zero_le _⟩) (wX_fst cy a) (fun r5 τ5 H locs p5 h => ?_)
  rw [p5.1] at h
  refine lv_if_eq (tgt := 36) hx hb dX11_at_8 (by decide) (fun c8 => ?_) (fun c8 => ?_)
  · refine lv_iconst (v := -1) hx hb dX11_at_36 (by decide) ?_
    exact t_i E h hr hk K.rf dX11_at_37
  · obtain ⟨i, hi, hi2, rfl⟩ := z_in (p5.2.t c8).1 (hn ▸ (p5.2.t c8).2) hn2 (by decide)
    refine lv_iload_n hx hb dX11_at_11 rfl (lv_at hl 2 rfl) ?_
    refine k_i h (q_runS (As := [.int y]) (rest := []) E h (c_X11_isYear l D cy a σ y) co_X11_isYear ml_X11_97 st_X11_isYear in_X11 rfl ok_X11_isYear rfl ⟨by decide, by decide⟩ hl.1 rfl (Nat.le_of_ble_eq_true rfl) dX11_at_12 ⟨Nat.zero_le _, Nat.zero_le _⟩) (wX_fst cy a) (fun r12 τ12 H locs p12 h => ?_)
    rw [p12.1] at h
    refine lv_if_eq (tgt := 36) hx hb dX11_at_15 (by decide) (fun c15 => ?_) (fun c15 => ?_)
    · refine lv_iconst (v := -1) hx hb dX11_at_36 (by decide) ?_
      exact t_i E h hr hk K.rf dX11_at_37
    · refine lv_iload_n hx hb dX11_at_18 rfl (lv_at hl 3 rfl) ?_
      refine k_i h (q_runS (As := [.int w]) (rest := []) E h (c_X11_isYear l D cy a σ w) co_X11_isYear ml_X11_97 st_X11_isYear in_X11 rfl ok_X11_isYear rfl ⟨by decide, by decide⟩ hl.1 rfl (Nat.le_of_ble_eq_true rfl) dX11_at_19 ⟨Nat.zero_le _, Nat.zero_le _⟩) (wX_fst cy a) (fun r19 τ19 H locs p19 h => ?_)
      rw [p19.1] at h
      refine lv_if_eq (tgt := 36) hx hb dX11_at_22 (by decide) (fun c22 => ?_) (fun c22 => ?_)
      · refine lv_iconst (v := -1) hx hb dX11_at_36 (by decide) ?_
        exact t_i E h hr hk K.rf dX11_at_37
      · refine lv_iload hx hb dX11_at_25 (lv_at hl 4 rfl) ?_
        refine lv_iconst (v := 0) hx hb dX11_at_27 (by decide) ?_
        refine lv_bipush (v := 6) hx hb dX11_at_28 (by decide) ?_
        refine k_i h (q_runS (As := [.int v, .int 0, .int 6]) (rest := []) E h (c_X11_isWithin l D cy a σ v 0 6) co_X11_isWithin ml_X11_86 st_X11_isWithin in_X11 rfl ok_X11_isWithin rfl ⟨by decide, by decide⟩ hl.1 rfl (Nat.le_of_ble_eq_true rfl) dX11_at_30 ⟨Nat.zero_le _, Nat.zero_le _⟩) (wX_fst cy a) (fun r30 τ30 H locs p30 h => ?_)
        rw [p30.1] at h
        refine lv_if_ne (tgt := 38) hx hb dX11_at_33 (by decide) (fun c33 => ?_) (fun c33 => ?_)
        · obtain ⟨k, hk7, rfl⟩ := vp_in_of (in_W (n := 6) (p30.2.t c33)) (by decide)
          refine lv_aload_n hx hb dX11_at_38 rfl (lv_at hl 0 rfl) ?_
          refine r_get E h 9 (v := .ref (a 16)) (eX_0 cy a σ) rfl fw_X11 (by decide) fl_X11_77 rfl dX11_at_39 ?_
          refine lv_iload_n hx hb dX11_at_42 rfl (lv_at hl 2 rfl) ?_
          refine lv_iload_n hx hb dX11_at_43 rfl (lv_at hl 3 rfl) ?_
          refine k_v h (q_runV (As := [.int y, .int w]) (rest := []) E h (c_X2_run l D cy a σ y w g) co_X2_run ml_X11_191 im_X2_run se_X2_run in_X2 (eX_16 cy a σ) rfl ok_X2_run rfl ⟨by decide, by decide⟩ hl.1 rfl (Nat.le_of_ble_eq_true rfl) dX11_at_44 ⟨Nat.zero_le _, Nat.zero_le _⟩) (wX_fst cy a) (fun τ44 H locs p44 h => ?_)
          rcases (show k = 0 ∨ k = 1 ∨ k = 2 ∨ k = 3 ∨ k = 4 ∨ k = 5 ∨ k = 6 by omega) with rfl | rfl | rfl | rfl | rfl | rfl | rfl
          · refine lv_aload_n hx hb dX11_at_47 rfl (lv_at hl 0 rfl) ?_
            refine r_get E h 9 (v := .ref (a 16)) (eX_0 cy a τ44) rfl fw_X11 (by decide) fl_X11_77 rfl dX11_at_48 ?_
            refine r_get E h 9 (v := .ref (a 64)) (eX_16 cy a τ44) rfl fw_X2 (by decide) fl_X11_197 rfl dX11_at_51 ?_
            refine lv_iload hx hb dX11_at_54 (lv_at hl 4 rfl) ?_
            refine r_aald E h (eX_64 cy a τ44) (j := 0) (by decide) (by decide) (v := .ref (a 65)) rfl dX11_at_56 ?_
            refine lv_iload_n hx hb dX11_at_57 rfl (lv_at hl 1 rfl) ?_
            refine r_ialdN E h (f := τ44.2.1 65) (eX_65 cy a τ44) (j := i) hi2 (by decide) (v := τ44.2.1 65 i) rfl dX11_at_58 ?_
            exact t_i E h hr hk p44.1 dX11_at_59
          · refine lv_aload_n hx hb dX11_at_47 rfl (lv_at hl 0 rfl) ?_
            refine r_get E h 9 (v := .ref (a 16)) (eX_0 cy a τ44) rfl fw_X11 (by decide) fl_X11_77 rfl dX11_at_48 ?_
            refine r_get E h 9 (v := .ref (a 64)) (eX_16 cy a τ44) rfl fw_X2 (by decide) fl_X11_197 rfl dX11_at_51 ?_
            refine lv_iload hx hb dX11_at_54 (lv_at hl 4 rfl) ?_
            refine r_aald E h (eX_64 cy a τ44) (j := 1) (by decide) (by decide) (v := .ref (a 66)) rfl dX11_at_56 ?_
            refine lv_iload_n hx hb dX11_at_57 rfl (lv_at hl 1 rfl) ?_
            refine r_ialdN E h (f := τ44.2.1 66) (eX_66 cy a τ44) (j := i) hi2 (by decide) (v := τ44.2.1 66 i) rfl dX11_at_58 ?_
            exact t_i E h hr hk p44.1 dX11_at_59
          · refine lv_aload_n hx hb dX11_at_47 rfl (lv_at hl 0 rfl) ?_
            refine r_get E h 9 (v := .ref (a 16)) (eX_0 cy a τ44) rfl fw_X11 (by decide) fl_X11_77 rfl dX11_at_48 ?_
            refine r_get E h 9 (v := .ref (a 64)) (eX_16 cy a τ44) rfl fw_X2 (by decide) fl_X11_197 rfl dX11_at_51 ?_
            refine lv_iload hx hb dX11_at_54 (lv_at hl 4 rfl) ?_
            refine r_aald E h (eX_64 cy a τ44) (j := 2) (by decide) (by decide) (v := .ref (a 67)) rfl dX11_at_56 ?_
            refine lv_iload_n hx hb dX11_at_57 rfl (lv_at hl 1 rfl) ?_
            refine r_ialdN E h (f := τ44.2.1 67) (eX_67 cy a τ44) (j := i) hi2 (by decide) (v := τ44.2.1 67 i) rfl dX11_at_58 ?_
            exact t_i E h hr hk p44.1 dX11_at_59
          · refine lv_aload_n hx hb dX11_at_47 rfl (lv_at hl 0 rfl) ?_
            refine r_get E h 9 (v := .ref (a 16)) (eX_0 cy a τ44) rfl fw_X11 (by decide) fl_X11_77 rfl dX11_at_48 ?_
            refine r_get E h 9 (v := .ref (a 64)) (eX_16 cy a τ44) rfl fw_X2 (by decide) fl_X11_197 rfl dX11_at_51 ?_
            refine lv_iload hx hb dX11_at_54 (lv_at hl 4 rfl) ?_
            refine r_aald E h (eX_64 cy a τ44) (j := 3) (by decide) (by decide) (v := .ref (a 68)) rfl dX11_at_56 ?_
            refine lv_iload_n hx hb dX11_at_57 rfl (lv_at hl 1 rfl) ?_
            refine r_ialdN E h (f := τ44.2.1 68) (eX_68 cy a τ44) (j := i) hi2 (by decide) (v := τ44.2.1 68 i) rfl dX11_at_58 ?_
            exact t_i E h hr hk p44.1 dX11_at_59
          · refine lv_aload_n hx hb dX11_at_47 rfl (lv_at hl 0 rfl) ?_
            refine r_get E h 9 (v := .ref (a 16)) (eX_0 cy a τ44) rfl fw_X11 (by decide) fl_X11_77 rfl dX11_at_48 ?_
            refine r_get E h 9 (v := .ref (a 64)) (eX_16 cy a τ44) rfl fw_X2 (by decide) fl_X11_197 rfl dX11_at_51 ?_
            refine lv_iload hx hb dX11_at_54 (lv_at hl 4 rfl) ?_
            refine r_aald E h (eX_64 cy a τ44) (j := 4) (by decide) (by decide) (v := .ref (a 69)) rfl dX11_at_56 ?_
            refine lv_iload_n hx hb dX11_at_57 rfl (lv_at hl 1 rfl) ?_
            refine r_ialdN E h (f := τ44.2.1 69) (eX_69 cy a τ44) (j := i) hi2 (by decide) (v := τ44.2.1 69 i) rfl dX11_at_58 ?_
            exact t_i E h hr hk p44.1 dX11_at_59
          · refine lv_aload_n hx hb dX11_at_47 rfl (lv_at hl 0 rfl) ?_
            refine r_get E h 9 (v := .ref (a 16)) (eX_0 cy a τ44) rfl fw_X11 (by decide) fl_X11_77 rfl dX11_at_48 ?_
            refine r_get E h 9 (v := .ref (a 64)) (eX_16 cy a τ44) rfl fw_X2 (by decide) fl_X11_197 rfl dX11_at_51 ?_
            refine lv_iload hx hb dX11_at_54 (lv_at hl 4 rfl) ?_
            refine r_aald E h (eX_64 cy a τ44) (j := 5) (by decide) (by decide) (v := .ref (a 70)) rfl dX11_at_56 ?_
            refine lv_iload_n hx hb dX11_at_57 rfl (lv_at hl 1 rfl) ?_
            refine r_ialdN E h (f := τ44.2.1 70) (eX_70 cy a τ44) (j := i) hi2 (by decide) (v := τ44.2.1 70 i) rfl dX11_at_58 ?_
            exact t_i E h hr hk p44.1 dX11_at_59
          · refine lv_aload_n hx hb dX11_at_47 rfl (lv_at hl 0 rfl) ?_
            refine r_get E h 9 (v := .ref (a 16)) (eX_0 cy a τ44) rfl fw_X11 (by decide) fl_X11_77 rfl dX11_at_48 ?_
            refine r_get E h 9 (v := .ref (a 64)) (eX_16 cy a τ44) rfl fw_X2 (by decide) fl_X11_197 rfl dX11_at_51 ?_
            refine lv_iload hx hb dX11_at_54 (lv_at hl 4 rfl) ?_
            refine r_aald E h (eX_64 cy a τ44) (j := 6) (by decide) (by decide) (v := .ref (a 71)) rfl dX11_at_56 ?_
            refine lv_iload_n hx hb dX11_at_57 rfl (lv_at hl 1 rfl) ?_
            refine r_ialdN E h (f := τ44.2.1 71) (eX_71 cy a τ44) (j := i) hi2 (by decide) (v := τ44.2.1 71 i) rfl dX11_at_58 ?_
            exact t_i E h hr hk p44.1 dX11_at_59
        · refine lv_iconst (v := -1) hx hb dX11_at_36 (by decide) ?_
          exact t_i E h hr hk K.rf dX11_at_37

set_option maxHeartbeats 4000000 in
set_option maxRecDepth 100000 in
theorem c_X11_countDryQuarters (l : Launch) (D : va_G) (cy : Nat → ClassId) (a : Nat → Nat) (σ : St) (x : Int32) (b t : Nat) (g : GX σ) (hb2 : b ≤ 200) (ht : t ≤ 200) : CV l yX11_countDryQuarters cX11_countDryQuarters 5 none (rmOf 5 116) D cy (wX cy a) (AX a) [.ref (a 0), .int x, .int (nI b), .int (nI t)] σ (fun τ => K cF cA σ τ) := by
  refine c_of (lv := [(0, .ref (a 0)), (1, .int x), (2, .int (nI b)), (3, .int (nI t))]) rfl (Nat.le_of_ble_eq_true rfl) rfl ?_
  intro p e s m args below meth c ls E h hr hk hl
  have hx := E.1
  have hb := E.2.1
  refine lv_iload_n hx hb dX11_countDryQuarters_0 rfl (lv_at hl 2 rfl) ?_
  refine lv_istore (lv' := [(4, .int (nI b)), (0, .ref (a 0)), (1, .int x), (2, .int (nI b)), (3, .int (nI t))]) hx hb dX11_countDryQuarters_1 hl (by decide) rfl (fun ls hl => ?_)
  have lp3 : ∀ (f : Nat) (k : Nat) (τ : St) (H : Heap) (locs : List Loc) (ls : Array Slot), (k ≤ 201 ∧ K cF cA σ τ) → (201 - k) < f → HW D (AX a) s (wX cy a τ) H locs → lv_has ls 5 [(4, .int (nI k)), (0, .ref (a 0)), (1, .int x), (2, .int (nI b)), (3, .int (nI t))] → W p l e (rmOf 5 116) s m args below meth c H locs 0 0 (MQ below (va_Qv (fun τ => K cF cA σ τ) (fun u t => va_P D vwCl (wX cy a u) t.heap) (AX a)) args s 0 0 (AX a)) (F0 m 3 ls []) := by
    intro f
    induction f with
    | zero => intro k τ H locs ls _ hf; exact absurd hf (Nat.not_lt_zero _)
    | succ f ih3 =>
      intro k τ H locs ls hi3 hf3 h hl
      refine lv_iload hx hb dX11_countDryQuarters_3 (lv_at hl 0 rfl) ?_
      refine lv_iload_n hx hb dX11_countDryQuarters_5 rfl (lv_at hl 4 rfl) ?_
      refine lv_icmp_gt (tgt := 57) hx hb dX11_countDryQuarters_6 (by decide) (fun c6 => ?_) (fun c6 => ?_)
      · exact t_v E h hr hk hi3.2 dX11_countDryQuarters_57
      · have c6 : k ≤ t := Nat.le_of_not_lt fun q9 => c6 ((nI_ltI (by omega) (by omega)).mpr q9)
        refine lv_aload_n hx hb dX11_countDryQuarters_9 rfl (lv_at hl 1 rfl) ?_
        refine r_get E h 9 (v := .ref (a 16)) (eX_0 cy a τ) rfl fw_X11 (by decide) fl_X11_77 rfl dX11_countDryQuarters_10 ?_
        refine lv_iload hx hb dX11_countDryQuarters_13 (lv_at hl 0 rfl) ?_
        refine lv_aload_n hx hb dX11_countDryQuarters_15 rfl (lv_at hl 1 rfl) ?_
        refine r_get E h 12 (v := .int (τ.1 1)) (eX_0 cy a τ) rfl fw_X11 (by decide) fl_X11_130 rfl dX11_countDryQuarters_16 ?_
        refine k_v h (q_runV (As := [.int (nI k), .int (τ.1 1)]) (rest := []) E h (c_X2_prepare l D cy a τ (nI k) (τ.1 1) (g.kept hi3.2)) co_X2_prepare ml_X11_185 im_X2_prepare se_X2_prepare in_X2 (eX_16 cy a τ) rfl ok_X2_prepare rfl ⟨by decide, by decide⟩ hl.1 rfl (Nat.le_of_ble_eq_true rfl) dX11_countDryQuarters_19 ⟨Nat.zero_le _, Nat.zero_le _⟩) (wX_fst cy a) (fun τ19 H locs p19 h => ?_)
        refine lv_aload_n hx hb dX11_countDryQuarters_22 rfl (lv_at hl 1 rfl) ?_
        refine r_get E h 9 (v := .ref (a 16)) (eX_0 cy a τ19) rfl fw_X11 (by decide) fl_X11_77 rfl dX11_countDryQuarters_23 ?_
        refine lv_iload_n hx hb dX11_countDryQuarters_26 rfl (lv_at hl 2 rfl) ?_
        refine k_v h (q_runV (As := [.int x]) (rest := []) E h (c_X2_flow l D cy a τ19 x (g.kept (hi3.2.tr p19.1)) p19.2) co_X2_flow ml_X11_249 im_X2_flow se_X2_flow in_X2 (eX_16 cy a τ19) rfl ok_X2_flow rfl ⟨by decide, by decide⟩ hl.1 rfl (Nat.le_of_ble_eq_true rfl) dX11_countDryQuarters_27 ⟨Nat.zero_le _, Nat.zero_le _⟩) (wX_fst cy a) (fun τ27 H locs p27 h => ?_)
        refine lv_aload_n hx hb dX11_countDryQuarters_30 rfl (lv_at hl 1 rfl) ?_
        refine r_get E h 9 (v := .ref (a 16)) (eX_0 cy a τ27) rfl fw_X11 (by decide) fl_X11_77 rfl dX11_countDryQuarters_31 ?_
        refine k_v h (q_runV (As := []) (rest := []) E h (c_X2_weighQuarters l D cy a τ27 (g.kept ((hi3.2.tr p19.1).tr (k2 p27)))) co_X2_weighQuarters ml_X11_201 im_X2_weighQuarters se_X2_weighQuarters in_X2 (eX_16 cy a τ27) rfl ok_X2_weighQuarters rfl ⟨by decide, by decide⟩ hl.1 rfl (Nat.le_of_ble_eq_true rfl) dX11_countDryQuarters_34 ⟨Nat.zero_le _, Nat.zero_le _⟩) (wX_fst cy a) (fun τ34 H locs p34 h => ?_)
        refine lv_aload_n hx hb dX11_countDryQuarters_37 rfl (lv_at hl 1 rfl) ?_
        refine r_get E h 10 (v := .ref (a 17)) (eX_0 cy a τ34) rfl fw_X11 (by decide) fl_X11_81 rfl dX11_countDryQuarters_38 ?_
        refine lv_iload hx hb dX11_countDryQuarters_41 (lv_at hl 0 rfl) ?_
        refine lv_aload_n hx hb dX11_countDryQuarters_43 rfl (lv_at hl 1 rfl) ?_
        refine r_get E h 9 (v := .ref (a 16)) (eX_0 cy a τ34) rfl fw_X11 (by decide) fl_X11_77 rfl dX11_countDryQuarters_44 ?_
        refine k_i h (q_runV (As := []) (rest := [.int (nI k), .ref (a 17)]) E h (c_X2_countDry l D cy a τ34 ) co_X2_countDry ml_X11_252 im_X2_countDry se_X2_countDry in_X2 (eX_16 cy a τ34) rfl ok_X2_countDry rfl ⟨by decide, by decide⟩ hl.1 rfl (Nat.le_of_ble_eq_true rfl) dX11_countDryQuarters_47 ⟨Nat.zero_le _, Nat.zero_le _⟩) (wX_fst cy a) (fun r47 τ47 H locs p47 h => ?_)
        rw [p47.1] at h
        refine r_iastN E h (f := τ34.2.1 17) (eX_17 cy a τ34) (j := k) (by omega) (by decide) (qX_17 cy a τ34 (upd (τ34.2.1 17) k r47)) dX11_countDryQuarters_50 (fun H locs h => ?_)
        refine lv_iinc (v := nI (k + 1)) (lv' := [(4, .int (nI (k + 1))), (0, .ref (a 0)), (1, .int x), (2, .int (nI b)), (3, .int (nI t))]) hx hb dX11_countDryQuarters_51 hl (k := 0) rfl (nI_succ k).symm (by decide) rfl (fun ls hl => ?_)
        refine lv_goto (tgt := 3) hx hb dX11_countDryQuarters_54 (by decide) ?_
        exact ih3 (k + 1) (fR τ34 17 (upd (τ34.2.1 17) k r47)) _ _ _ ⟨by omega, (((hi3.2.tr p19.1).tr (k2 p27)).tr (k2 p34)).R 17 _ (by decide)⟩ (by omega) h (lv_sub hl [0, 1, 2, 3, 4] rfl)
  exact lp3 _ b σ _ _ _ ⟨by omega, K.rf⟩ (Nat.lt_succ_self _) h (lv_sub hl [0, 1, 2, 3, 4] rfl)

set_option maxHeartbeats 4000000 in
set_option maxRecDepth 100000 in
theorem c_X11_sumDry (l : Launch) (D : va_G) (cy : Nat → ClassId) (a : Nat → Nat) (σ : St) (b y : Nat) (hb2 : b + y ≤ 201) : CI l yX11_sumDry cX11_sumDry 5 (some .int) (rmOf 0 0) D cy (wX cy a) (AX a) [.ref (a 0), .int (nI b), .int (nI y)] σ (fun _ τ => τ = σ ∧ True) := by
  refine c_of (lv := [(0, .ref (a 0)), (1, .int (nI b)), (2, .int (nI y))]) rfl (Nat.le_of_ble_eq_true rfl) rfl ?_
  intro p e s m args below meth c ls E h hr hk hl
  have hx := E.1
  have hb := E.2.1
  refine lv_iconst (v := 0) hx hb dX11_sumDry_0 (by decide) ?_
  refine lv_istore_n (lv' := [(3, .int 0), (0, .ref (a 0)), (1, .int (nI b)), (2, .int (nI y))]) hx hb dX11_sumDry_1 rfl hl (by decide) rfl (fun ls hl => ?_)
  refine lv_iconst (v := 0) hx hb dX11_sumDry_2 (by decide) ?_
  refine lv_istore (lv' := [(4, .int 0), (3, .int 0), (0, .ref (a 0)), (1, .int (nI b)), (2, .int (nI y))]) hx hb dX11_sumDry_3 hl (by decide) rfl (fun ls hl => ?_)
  have lp5 : ∀ (f : Nat) (k : Nat) (u : Int32) (H : Heap) (locs : List Loc) (ls : Array Slot), (k ≤ y) → (y - k) < f → HW D (AX a) s (wX cy a σ) H locs → lv_has ls 5 [(4, .int (nI k)), (3, .int u), (0, .ref (a 0)), (1, .int (nI b)), (2, .int (nI y))] → W p l e (rmOf 0 0) s m args below meth c H locs 0 0 (MQ below (va_Qi (fun _ τ => τ = σ ∧ True) (fun u t => va_P D vwCl (wX cy a u) t.heap) (AX a)) args s 0 0 (AX a)) (F0 m 5 ls []) := by
    intro f
    induction f with
    | zero => intro k u H locs ls _ hf; exact absurd hf (Nat.not_lt_zero _)
    | succ f ih5 =>
      intro k u H locs ls hi5 hf5 h hl
      refine lv_iload hx hb dX11_sumDry_5 (lv_at hl 0 rfl) ?_
      refine lv_iload_n hx hb dX11_sumDry_7 rfl (lv_at hl 4 rfl) ?_
      refine lv_icmp_ge (tgt := 29) hx hb dX11_sumDry_8 (by decide) (fun c8 => ?_) (fun c8 => ?_)
      · refine lv_iload_n hx hb dX11_sumDry_29 rfl (lv_at hl 1 rfl) ?_
        exact t_i E h hr hk ⟨rfl, trivial⟩ dX11_sumDry_30
      · have c8 : k < y := Nat.lt_of_not_le fun q9 => c8 ((nI_leI (a := y) (b := k) (by omega) (by omega)).mpr q9)
        refine lv_iload_n hx hb dX11_sumDry_11 rfl (lv_at hl 1 rfl) ?_
        refine lv_aload_n hx hb dX11_sumDry_12 rfl (lv_at hl 2 rfl) ?_
        refine r_get E h 10 (v := .ref (a 17)) (eX_0 cy a σ) rfl fw_X11 (by decide) fl_X11_81 rfl dX11_sumDry_13 ?_
        refine lv_iload_n hx hb dX11_sumDry_16 rfl (lv_at hl 3 rfl) ?_
        refine lv_iload hx hb dX11_sumDry_17 (lv_at hl 0 rfl) ?_
        refine n_add (j := b) (k := k) hx hb dX11_sumDry_19 ?_
        refine r_ialdN E h (f := σ.2.1 17) (eX_17 cy a σ) (j := b + k) (by omega) (by decide) (v := σ.2.1 17 (b + k)) rfl dX11_sumDry_20 ?_
        refine lv_iadd hx hb dX11_sumDry_21 ?_
        refine lv_istore_n (lv' := [(3, .int (u + (σ.2.1 17 (b + k)))), (4, .int (nI k)), (0, .ref (a 0)), (1, .int (nI b)), (2, .int (nI y))]) hx hb dX11_sumDry_22 rfl hl (by decide) rfl (fun ls hl => ?_)
        refine lv_iinc (v := nI (k + 1)) (lv' := [(4, .int (nI (k + 1))), (3, .int (u + (σ.2.1 17 (b + k)))), (0, .ref (a 0)), (1, .int (nI b)), (2, .int (nI y))]) hx hb dX11_sumDry_23 hl (k := 1) rfl (nI_succ k).symm (by decide) rfl (fun ls hl => ?_)
        refine lv_goto (tgt := 5) hx hb dX11_sumDry_26 (by decide) ?_
        exact ih5 (k + 1) (u + (σ.2.1 17 (b + k))) _ _ _ (by omega) (by omega) h (lv_sub hl [0, 1, 2, 3, 4] rfl)
  exact lp5 _ 0 0 _ _ _ (Nat.zero_le _) (Nat.lt_succ_self _) h (lv_sub hl [0, 1, 2, 3, 4] rfl)

set_option maxHeartbeats 4000000 in
set_option maxRecDepth 100000 in
theorem c_X11_leastDryYear (l : Launch) (D : va_G) (cy : Nat → ClassId) (a : Nat → Nat) (σ : St) (y b t : Nat) (hb2 : b ≤ t) (ht : t + y ≤ 201) : CI l yX11_leastDryYear cX11_leastDryYear 8 (some .int) (rmOf 1 24) D cy (wX cy a) (AX a) [.ref (a 0), .int (nI y), .int (nI b), .int (nI t)] σ (fun _ τ => τ = σ ∧ True) := by
  refine c_of (lv := [(0, .ref (a 0)), (1, .int (nI y)), (2, .int (nI b)), (3, .int (nI t))]) rfl (Nat.le_of_ble_eq_true rfl) rfl ?_
  intro p e s m args below meth c ls E h hr hk hl
  have hx := E.1
  have hb := E.2.1
  refine lv_iload_n hx hb dX11_leastDryYear_0 rfl (lv_at hl 2 rfl) ?_
  refine lv_istore (lv' := [(4, .int (nI b)), (0, .ref (a 0)), (1, .int (nI y)), (2, .int (nI b)), (3, .int (nI t))]) hx hb dX11_leastDryYear_1 hl (by decide) rfl (fun ls hl => ?_)
  refine lv_aload_n hx hb dX11_leastDryYear_3 rfl (lv_at hl 1 rfl) ?_
  refine lv_iload_n hx hb dX11_leastDryYear_4 rfl (lv_at hl 3 rfl) ?_
  refine lv_iload_n hx hb dX11_leastDryYear_5 rfl (lv_at hl 2 rfl) ?_
  refine k_i h (q_runV (As := [.int (nI b), .int (nI y)]) (rest := []) E h (c_X11_sumDry l D cy a σ b y (by omega)) co_X11_sumDry ml_X11_256 im_X11_sumDry se_X11_sumDry in_X11 (eX_0 cy a σ) rfl ok_X11_sumDry rfl ⟨by decide, by decide⟩ hl.1 rfl (Nat.le_of_ble_eq_true rfl) dX11_leastDryYear_6 ⟨Nat.zero_le _, Nat.zero_le _⟩) (wX_fst cy a) (fun r6 τ6 H locs p6 h => ?_)
  rw [p6.1] at h
  refine lv_istore (lv' := [(5, .int r6), (4, .int (nI b)), (0, .ref (a 0)), (1, .int (nI y)), (2, .int (nI b)), (3, .int (nI t))]) hx hb dX11_leastDryYear_9 hl (by decide) rfl (fun ls hl => ?_)
  refine lv_iload_n hx hb dX11_leastDryYear_11 rfl (lv_at hl 4 rfl) ?_
  refine lv_iconst (v := 1) hx hb dX11_leastDryYear_12 (by decide) ?_
  refine n_add (j := b) (k := 1) hx hb dX11_leastDryYear_13 ?_
  refine lv_istore (lv' := [(6, .int (nI (b + 1))), (5, .int r6), (4, .int (nI b)), (0, .ref (a 0)), (1, .int (nI y)), (2, .int (nI b)), (3, .int (nI t))]) hx hb dX11_leastDryYear_14 hl (by decide) rfl (fun ls hl => ?_)
  have lp16 : ∀ (f : Nat) (k : Nat) (u v : Int32) (H : Heap) (locs : List Loc) (ls : Array Slot), (k ≤ t + 1) → (t + 1 - k) < f → HW D (AX a) s (wX cy a σ) H locs → lv_has ls 8 [(6, .int (nI k)), (5, .int u), (4, .int v), (0, .ref (a 0)), (1, .int (nI y)), (2, .int (nI b)), (3, .int (nI t))] → W p l e (rmOf 1 24) s m args below meth c H locs 0 0 (MQ below (va_Qi (fun _ τ => τ = σ ∧ True) (fun u t => va_P D vwCl (wX cy a u) t.heap) (AX a)) args s 0 0 (AX a)) (F0 m 16 ls []) := by
    intro f
    induction f with
    | zero => intro k u v H locs ls _ hf; exact absurd hf (Nat.not_lt_zero _)
    | succ f ih16 =>
      intro k u v H locs ls hi16 hf16 h hl
      refine lv_iload hx hb dX11_leastDryYear_16 (lv_at hl 0 rfl) ?_
      refine lv_iload_n hx hb dX11_leastDryYear_18 rfl (lv_at hl 6 rfl) ?_
      refine lv_icmp_gt (tgt := 52) hx hb dX11_leastDryYear_19 (by decide) (fun c19 => ?_) (fun c19 => ?_)
      · refine lv_iload hx hb dX11_leastDryYear_52 (lv_at hl 2 rfl) ?_
        exact t_i E h hr hk ⟨rfl, trivial⟩ dX11_leastDryYear_54
      · have c19 : k ≤ t := Nat.le_of_not_lt fun q9 => c19 ((nI_ltI (by omega) (by omega)).mpr q9)
        refine lv_aload_n hx hb dX11_leastDryYear_22 rfl (lv_at hl 3 rfl) ?_
        refine lv_iload hx hb dX11_leastDryYear_23 (lv_at hl 0 rfl) ?_
        refine lv_iload_n hx hb dX11_leastDryYear_25 rfl (lv_at hl 4 rfl) ?_
        refine k_i h (q_runV (As := [.int (nI k), .int (nI y)]) (rest := []) E h (c_X11_sumDry l D cy a σ k y (by omega)) co_X11_sumDry ml_X11_256 im_X11_sumDry se_X11_sumDry in_X11 (eX_0 cy a σ) rfl ok_X11_sumDry rfl ⟨by decide, by decide⟩ hl.1 rfl (Nat.le_of_ble_eq_true rfl) dX11_leastDryYear_26 ⟨Nat.zero_le _, Nat.zero_le _⟩) (wX_fst cy a) (fun r26 τ26 H locs p26 h => ?_)
        rw [p26.1] at h
        refine lv_istore (lv' := [(7, .int r26), (6, .int (nI k)), (5, .int u), (4, .int v), (0, .ref (a 0)), (1, .int (nI y)), (2, .int (nI b)), (3, .int (nI t))]) hx hb dX11_leastDryYear_29 hl (by decide) rfl (fun ls hl => ?_)
        refine lv_iload hx hb dX11_leastDryYear_31 (lv_at hl 0 rfl) ?_
        refine lv_iload hx hb dX11_leastDryYear_33 (lv_at hl 2 rfl) ?_
        refine lv_icmp_ge (tgt := 46) hx hb dX11_leastDryYear_35 (by decide) (fun c35 => ?_) (fun c35 => ?_)
        · refine lv_iinc (v := nI (k + 1)) (lv' := [(6, .int (nI (k + 1))), (7, .int r26), (5, .int u), (4, .int v), (0, .ref (a 0)), (1, .int (nI y)), (2, .int (nI b)), (3, .int (nI t))]) hx hb dX11_leastDryYear_46 hl (k := 1) rfl (nI_succ k).symm (by decide) rfl (fun ls hl => ?_)
          refine lv_goto (tgt := 16) hx hb dX11_leastDryYear_49 (by decide) ?_
          exact ih16 (k + 1) u v _ _ _ (by omega) (by omega) h (lv_sub hl [0, 2, 3, 4, 5, 6, 7] rfl)
        · refine lv_iload hx hb dX11_leastDryYear_38 (lv_at hl 0 rfl) ?_
          refine lv_istore (lv' := [(5, .int r26), (7, .int r26), (6, .int (nI k)), (4, .int v), (0, .ref (a 0)), (1, .int (nI y)), (2, .int (nI b)), (3, .int (nI t))]) hx hb dX11_leastDryYear_40 hl (by decide) rfl (fun ls hl => ?_)
          refine lv_iload hx hb dX11_leastDryYear_42 (lv_at hl 2 rfl) ?_
          refine lv_istore (lv' := [(4, .int (nI k)), (5, .int r26), (7, .int r26), (6, .int (nI k)), (0, .ref (a 0)), (1, .int (nI y)), (2, .int (nI b)), (3, .int (nI t))]) hx hb dX11_leastDryYear_44 hl (by decide) rfl (fun ls hl => ?_)
          refine lv_iinc (v := nI (k + 1)) (lv' := [(6, .int (nI (k + 1))), (4, .int (nI k)), (5, .int r26), (7, .int r26), (0, .ref (a 0)), (1, .int (nI y)), (2, .int (nI b)), (3, .int (nI t))]) hx hb dX11_leastDryYear_46 hl (k := 3) rfl (nI_succ k).symm (by decide) rfl (fun ls hl => ?_)
          refine lv_goto (tgt := 16) hx hb dX11_leastDryYear_49 (by decide) ?_
          exact ih16 (k + 1) r26 (nI k) _ _ _ (by omega) (by omega) h (lv_sub hl [0, 2, 1, 4, 5, 6, 7] rfl)
  exact lp16 _ (b + 1) _ _ _ _ _ (by omega) (Nat.lt_succ_self _) h (lv_sub hl [0, 1, 2, 3, 4, 5, 6] rfl)

set_option maxHeartbeats 4000000 in
set_option maxRecDepth 100000 in
theorem c_X11_best (l : Launch) (D : va_G) (cy : Nat → ClassId) (a : Nat → Nat) (σ : St) (x y w v : Int32) (g : GX σ) : CI l yX11_best cX11_best 5 (some .int) (rmOf 6 140) D cy (wX cy a) (AX a) [.ref (a 0), .int x, .int y, .int w, .int v] σ (fun _ τ => K cF cA σ τ) := by
  refine c_of (lv := [(0, .ref (a 0)), (1, .int x), (2, .int y), (3, .int w), (4, .int v)]) rfl (Nat.le_of_ble_eq_true rfl) rfl ?_
  intro p e s m args below meth c ls E h hr hk hl
  have hx := E.1
  have hb := E.2.1
  refine lv_iload_n hx hb dX11_best_0 rfl (lv_at hl 2 rfl) ?_
  refine lv_iconst (v := 1) hx hb dX11_best_1 (by decide) ?_
  refine lv_bipush (v := 10) hx hb dX11_best_2 (by decide) ?_
  refine k_i h (q_runS (As := [.int y, .int 1, .int 10]) (rest := []) E h (c_X11_isWithin l D cy a σ y 1 10) co_X11_isWithin ml_X11_86 st_X11_isWithin in_X11 rfl ok_X11_isWithin rfl ⟨by decide, by decide⟩ hl.1 rfl (Nat.le_of_ble_eq_true rfl) dX11_best_4 ⟨Nat.zero_le _, Nat.zero_le _⟩) (wX_fst cy a) (fun r4 τ4 H locs p4 h => ?_)
  rw [p4.1] at h
  refine lv_if_eq (tgt := 31) hx hb dX11_best_7 (by decide) (fun c7 => ?_) (fun c7 => ?_)
  · refine lv_iconst (v := -1) hx hb dX11_best_31 (by decide) ?_
    exact t_i E h hr hk K.rf dX11_best_32
  · obtain ⟨d, hd, rfl⟩ := wi_n1 (n := 10) (by decide) (p4.2.t c7)
    refine lv_iload_n hx hb dX11_best_10 rfl (lv_at hl 3 rfl) ?_
    refine lv_iload hx hb dX11_best_11 (lv_at hl 4 rfl) ?_
    refine k_i h (q_runS (As := [.int w, .int v]) (rest := []) E h (c_X11_areYears l D cy a σ w v) co_X11_areYears ml_X11_148 st_X11_areYears in_X11 rfl ok_X11_areYears rfl ⟨by decide, by decide⟩ hl.1 rfl (Nat.le_of_ble_eq_true rfl) dX11_best_13 ⟨Nat.zero_le _, Nat.zero_le _⟩) (wX_fst cy a) (fun r13 τ13 H locs p13 h => ?_)
    rw [p13.1] at h
    refine lv_if_eq (tgt := 31) hx hb dX11_best_16 (by decide) (fun c16 => ?_) (fun c16 => ?_)
    · refine lv_iconst (v := -1) hx hb dX11_best_31 (by decide) ?_
      exact t_i E h hr hk K.rf dX11_best_32
    · have hy := p13.2.elim (fun q => q.2) (fun q => absurd q.1 c16)
      obtain ⟨b, hb2, rfl⟩ := wi_n (n := 200) (by decide) hy.1
      obtain ⟨t, ht, rfl⟩ := wi_n (n := 200) (by decide) hy.2.1
      have hbt : b ≤ t := (nI_leI (by omega) (by omega)).mp hy.2.2
      refine lv_iload hx hb dX11_best_19 (lv_at hl 4 rfl) ?_
      refine lv_iload_n hx hb dX11_best_21 rfl (lv_at hl 2 rfl) ?_
      refine n_add (j := t) (k := d + 1) hx hb dX11_best_22 ?_
      refine lv_iconst (v := 1) hx hb dX11_best_23 (by decide) ?_
      refine n_subk (j := t + (d + 1)) (k := 1) (by omega) hx hb dX11_best_24 ?_
      refine lv_sipush (v := 200) hx hb dX11_best_25 (by decide) ?_
      refine lv_icmp_le (tgt := 33) hx hb dX11_best_28 (by decide) (fun c28 => ?_) (fun c28 => ?_)
      · have c28 : t + (d + 1) - 1 ≤ 200 := (nI_leI (b := 200) (by omega) (by decide)).mp c28
        refine lv_aload_n hx hb dX11_best_33 rfl (lv_at hl 0 rfl) ?_
        refine r_get E h 5 (v := .ref (a 7)) (eX_0 cy a σ) rfl fw_X11 (by decide) fl_X11_49 rfl dX11_best_34 ?_
        refine lv_iload_n hx hb dX11_best_37 rfl (lv_at hl 1 rfl) ?_
        refine k_i h (q_runV (As := [.int x]) (rest := []) E h (c_X0_has l D cy a σ x) co_X0_has ml_X11_127 im_X0_has se_X0_has in_X0 (eX_7 cy a σ) rfl ok_X0_has rfl ⟨by decide, by decide⟩ hl.1 rfl (Nat.le_of_ble_eq_true rfl) dX11_best_38 ⟨Nat.zero_le _, Nat.zero_le _⟩) (wX_fst cy a) (fun r38 τ38 H locs p38 h => ?_)
        rw [p38.1] at h
        refine lv_if_ne (tgt := 47) hx hb dX11_best_41 (by decide) (fun c41 => ?_) (fun c41 => ?_)
        · refine lv_aload_n hx hb dX11_best_47 rfl (lv_at hl 0 rfl) ?_
          refine lv_iload_n hx hb dX11_best_48 rfl (lv_at hl 1 rfl) ?_
          refine lv_iload_n hx hb dX11_best_49 rfl (lv_at hl 3 rfl) ?_
          refine lv_iload hx hb dX11_best_50 (lv_at hl 4 rfl) ?_
          refine lv_iload_n hx hb dX11_best_52 rfl (lv_at hl 2 rfl) ?_
          refine n_add (j := t) (k := d + 1) hx hb dX11_best_53 ?_
          refine lv_iconst (v := 1) hx hb dX11_best_54 (by decide) ?_
          refine n_subk (j := t + (d + 1)) (k := 1) (by omega) hx hb dX11_best_55 ?_
          refine k_v h (q_runV (As := [.int x, .int (nI b), .int (nI ((t + (d + 1)) - 1))]) (rest := []) E h (c_X11_countDryQuarters l D cy a σ x b (t + (d + 1) - 1) g (by omega) (by omega)) co_X11_countDryQuarters ml_X11_210 im_X11_countDryQuarters se_X11_countDryQuarters in_X11 (eX_0 cy a σ) rfl ok_X11_countDryQuarters rfl ⟨by decide, by decide⟩ hl.1 rfl (Nat.le_of_ble_eq_true rfl) dX11_best_56 ⟨Nat.zero_le _, Nat.zero_le _⟩) (wX_fst cy a) (fun τ56 H locs p56 h => ?_)
          refine lv_aload_n hx hb dX11_best_59 rfl (lv_at hl 0 rfl) ?_
          refine lv_iload_n hx hb dX11_best_60 rfl (lv_at hl 2 rfl) ?_
          refine lv_iload_n hx hb dX11_best_61 rfl (lv_at hl 3 rfl) ?_
          refine lv_iload hx hb dX11_best_62 (lv_at hl 4 rfl) ?_
          refine k_i h (q_runV (As := [.int (nI (d + 1)), .int (nI b), .int (nI t)]) (rest := []) E h (c_X11_leastDryYear l D cy a τ56 (d + 1) b t (by omega) (by omega)) co_X11_leastDryYear ml_X11_214 im_X11_leastDryYear se_X11_leastDryYear in_X11 (eX_0 cy a τ56) rfl ok_X11_leastDryYear rfl ⟨by decide, by decide⟩ hl.1 rfl (Nat.le_of_ble_eq_true rfl) dX11_best_64 ⟨Nat.zero_le _, Nat.zero_le _⟩) (wX_fst cy a) (fun r64 τ64 H locs p64 h => ?_)
          rw [p64.1] at h
          exact t_i E h hr hk p56 dX11_best_67
        · refine lv_bipush (v := -2) hx hb dX11_best_44 (by decide) ?_
          exact t_i E h hr hk K.rf dX11_best_46
      · refine lv_iconst (v := -1) hx hb dX11_best_31 (by decide) ?_
        exact t_i E h hr hk K.rf dX11_best_32

set_option maxHeartbeats 4000000 in
set_option maxRecDepth 100000 in
theorem c_X11_dead (l : Launch) (D : va_G) (cy : Nat → ClassId) (a : Nat → Nat) (σ : St) (x y : Int32) (g : GX σ) : CI l yX11_dead cX11_dead 3 (some .int) (rmOf 2 43) D cy (wX cy a) (AX a) [.ref (a 0), .int x, .int y] σ (fun _ τ => K cF cA σ τ) := by
  refine c_of (lv := [(0, .ref (a 0)), (1, .int x), (2, .int y)]) rfl (Nat.le_of_ble_eq_true rfl) rfl ?_
  intro p e s m args below meth c ls E h hr hk hl
  have hx := E.1
  have hb := E.2.1
  obtain ⟨m9, hm9, hm⟩ := g.2.2.2.2.2.2.1.2.2.2
  refine lv_aload_n hx hb dX11_dead_0 rfl (lv_at hl 0 rfl) ?_
  refine lv_iload_n hx hb dX11_dead_1 rfl (lv_at hl 1 rfl) ?_
  refine k_i h (q_runV (As := [.int x]) (rest := []) E h (c_X11_isPerson l D cy a σ x) co_X11_isPerson ml_X11_118 im_X11_isPerson se_X11_isPerson in_X11 (eX_0 cy a σ) rfl ok_X11_isPerson rfl ⟨by decide, by decide⟩ hl.1 rfl (Nat.le_of_ble_eq_true rfl) dX11_dead_2 ⟨Nat.zero_le _, Nat.zero_le _⟩) (wX_fst cy a) (fun r2 τ2 H locs p2 h => ?_)
  rw [p2.1] at h
  refine lv_if_eq (tgt := 15) hx hb dX11_dead_5 (by decide) (fun c5 => ?_) (fun c5 => ?_)
  · refine lv_iconst (v := -1) hx hb dX11_dead_15 (by decide) ?_
    exact t_i E h hr hk K.rf dX11_dead_16
  · have hx4 : vp_in x 40 := by
      obtain ⟨i, hi, hi4, e9⟩ := z_in (p2.2.t c5).1 (hm ▸ (p2.2.t c5).2) hm9 (by decide)
      rw [e9]; exact vp_in_nI hi4 (by decide)
    refine lv_iload_n hx hb dX11_dead_8 rfl (lv_at hl 2 rfl) ?_
    refine k_i h (q_runS (As := [.int y]) (rest := []) E h (c_X11_isYear l D cy a σ y) co_X11_isYear ml_X11_97 st_X11_isYear in_X11 rfl ok_X11_isYear rfl ⟨by decide, by decide⟩ hl.1 rfl (Nat.le_of_ble_eq_true rfl) dX11_dead_9 ⟨Nat.zero_le _, Nat.zero_le _⟩) (wX_fst cy a) (fun r9 τ9 H locs p9 h => ?_)
    rw [p9.1] at h
    refine lv_if_ne (tgt := 17) hx hb dX11_dead_12 (by decide) (fun c12 => ?_) (fun c12 => ?_)
    · refine lv_aload_n hx hb dX11_dead_17 rfl (lv_at hl 0 rfl) ?_
      refine r_get E h 3 (v := .ref (a 5)) (eX_0 cy a σ) rfl fw_X11 (by decide) fl_X11_35 rfl dX11_dead_18 ?_
      refine lv_iload_n hx hb dX11_dead_21 rfl (lv_at hl 2 rfl) ?_
      refine k_v h (q_runV (As := [.int y]) (rest := []) E h (c_X1_settle l D cy a σ y g) co_X1_settle ml_X11_228 im_X1_settle se_X1_settle in_X1 (eX_5 cy a σ) rfl ok_X1_settle rfl ⟨by decide, by decide⟩ hl.1 rfl (Nat.le_of_ble_eq_true rfl) dX11_dead_22 ⟨Nat.zero_le _, Nat.zero_le _⟩) (wX_fst cy a) (fun τ22 H locs p22 h => ?_)
      refine lv_aload_n hx hb dX11_dead_25 rfl (lv_at hl 0 rfl) ?_
      refine r_get E h 3 (v := .ref (a 5)) (eX_0 cy a τ22) rfl fw_X11 (by decide) fl_X11_35 rfl dX11_dead_26 ?_
      refine r_get E h 3 (v := .ref (a 32)) (eX_5 cy a τ22) rfl fw_X1 (by decide) fl_X11_229 rfl dX11_dead_29 ?_
      refine lv_iload_n hx hb dX11_dead_32 rfl (lv_at hl 1 rfl) ?_
      refine r_iald E h (f := τ22.2.1 32) (eX_32 cy a τ22) hx4 dX11_dead_33 ?_
      exact t_i E h hr hk (k2 p22) dX11_dead_34
    · refine lv_iconst (v := -1) hx hb dX11_dead_15 (by decide) ?_
      exact t_i E h hr hk K.rf dX11_dead_16
