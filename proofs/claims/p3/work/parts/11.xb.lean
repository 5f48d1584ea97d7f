set_option maxHeartbeats 4000000 in
set_option maxRecDepth 100000 in
theorem c_X3_put_gC (l : Launch) (D : va_G) (cy : Nat → ClassId) (a : Nat → Nat) (σ : St) (j : Nat) (x : Int32) (z : Nat) (hj : j < 12) (hz : σ.2.1 53 j = nI z) (hw : z ≤ 12) : CV l yX3_put cX3_put 3 none (rmOf 1 22) D cy (wX cy a) (AX a) [.ref (a 11), .int (nI j), .int x] σ (fun τ => (z = 12 ∧ τ = σ) ∨ (z < 12 ∧ τ = fR (fR σ 52 (upd (σ.2.1 52) ((j * 12) + z) x)) 53 (upd (σ.2.1 53) j (nI (z + 1))))) := by
  refine c_of (lv := [(0, .ref (a 11)), (1, .int (nI j)), (2, .int x)]) rfl (Nat.le_of_ble_eq_true rfl) rfl ?_
  intro p e s m args below meth c ls E h hr hk hl
  have hx := E.1
  have hb := E.2.1
  refine lv_iload_n hx hb dX3_put_0 rfl (lv_at hl 1 rfl) ?_
  refine lv_iconst (v := 0) hx hb dX3_put_1 (by decide) ?_
  refine lv_bipush (v := 11) hx hb dX3_put_2 (by decide) ?_
  refine k_i h (q_runSN (As := [.int (nI j), .int 0, .int 11]) (rest := []) E h (c_X11_isWithin l D cy a σ (nI j) 0 11) co_X11_isWithin nl_X3_22 st_X11_isWithin in_X11 ok_X11_isWithin rfl ⟨by decide, by decide⟩ hl.1 rfl (Nat.le_of_ble_eq_true rfl) dX3_put_4 ⟨Nat.zero_le _, Nat.zero_le _⟩) (wX_fst cy a) (fun r4 τ4 H locs p4 h => ?_)
  rw [p4.1] at h
  refine lv_if_eq (tgt := 23) hx hb dX3_put_7 (by decide) (fun c7 => ?_) (fun c7 => ?_)
  · exact absurd ⟨nI_pos' (by omega), (nI_leI (a := j) (b := 11) (by omega) (by decide)).mpr (by omega)⟩ (p4.2.f c7)
  · refine lv_aload_n hx hb dX3_put_10 rfl (lv_at hl 0 rfl) ?_
    refine r_get E h 2 (v := .ref (a 53)) (eX_11 cy a σ) rfl fw_X3 (by decide) fl_X3_9 rfl dX3_put_11 ?_
    refine lv_iload_n hx hb dX3_put_14 rfl (lv_at hl 1 rfl) ?_
    refine r_ialdN E h (f := σ.2.1 53) (eX_53 cy a σ) (j := j) hj (by decide) (v := nI z) hz dX3_put_15 ?_
    refine lv_aload_n hx hb dX3_put_16 rfl (lv_at hl 0 rfl) ?_
    refine r_get E h 0 (v := .int 12) (eX_11 cy a σ) rfl fw_X3 (by decide) fl_X3_15 rfl dX3_put_17 ?_
    refine lv_icmp_lt (tgt := 24) hx hb dX3_put_20 (by decide) (fun c20 => ?_) (fun c20 => ?_)
    · have c20 : z < 12 := n_lt (by omega) (by decide) c20
      refine lv_aload_n hx hb dX3_put_24 rfl (lv_at hl 0 rfl) ?_
      refine r_get E h 1 (v := .ref (a 52)) (eX_11 cy a σ) rfl fw_X3 (by decide) fl_X3_19 rfl dX3_put_25 ?_
      refine lv_iload_n hx hb dX3_put_28 rfl (lv_at hl 1 rfl) ?_
      refine lv_aload_n hx hb dX3_put_29 rfl (lv_at hl 0 rfl) ?_
      refine r_get E h 0 (v := .int 12) (eX_11 cy a σ) rfl fw_X3 (by decide) fl_X3_15 rfl dX3_put_30 ?_
      refine n_mul (j := j) (k := 12) hx hb dX3_put_33 ?_
      refine lv_aload_n hx hb dX3_put_34 rfl (lv_at hl 0 rfl) ?_
      refine r_get E h 2 (v := .ref (a 53)) (eX_11 cy a σ) rfl fw_X3 (by decide) fl_X3_9 rfl dX3_put_35 ?_
      refine lv_iload_n hx hb dX3_put_38 rfl (lv_at hl 1 rfl) ?_
      refine r_ialdN E h (f := σ.2.1 53) (eX_53 cy a σ) (j := j) hj (by decide) (v := nI z) hz dX3_put_39 ?_
      refine n_add (j := j * 12) (k := z) hx hb dX3_put_40 ?_
      refine lv_iload_n hx hb dX3_put_41 rfl (lv_at hl 2 rfl) ?_
      refine r_iastN E h (f := σ.2.1 52) (eX_52 cy a σ) (j := (j * 12) + z) (by omega) (by decide) (qX_52 cy a σ (upd (σ.2.1 52) ((j * 12) + z) x)) dX3_put_42 (fun H locs h => ?_)
      refine lv_aload_n hx hb dX3_put_43 rfl (lv_at hl 0 rfl) ?_
      refine r_get E h 2 (v := .ref (a 53)) (eX_11 cy a (fR σ 52 (upd (σ.2.1 52) ((j * 12) + z) x))) rfl fw_X3 (by decide) fl_X3_9 rfl dX3_put_44 ?_
      refine lv_iload_n hx hb dX3_put_47 rfl (lv_at hl 1 rfl) ?_
      refine lv_dup2_11 hx hb dX3_put_48 rfl rfl ?_
      refine r_ialdN E h (f := σ.2.1 53) (eX_53 cy a (fR σ 52 (upd (σ.2.1 52) ((j * 12) + z) x))) (j := j) hj (by decide) (v := nI z) hz dX3_put_49 ?_
      refine lv_iconst (v := 1) hx hb dX3_put_50 (by decide) ?_
      refine n_add (j := z) (k := 1) hx hb dX3_put_51 ?_
      refine r_iastN E h (f := σ.2.1 53) (eX_53 cy a (fR σ 52 (upd (σ.2.1 52) ((j * 12) + z) x))) (j := j) hj (by decide) (qX_53 cy a (fR σ 52 (upd (σ.2.1 52) ((j * 12) + z) x)) (upd (σ.2.1 53) j (nI (z + 1)))) dX3_put_52 (fun H locs h => ?_)
      exact t_v E h hr hk (Or.inr ⟨c20, rfl⟩) dX3_put_53
    · have c20 : 12 ≤ z := n_nlt (by omega) (by decide) c20
      exact t_v E h hr hk (Or.inl ⟨by omega, rfl⟩) dX3_put_23

set_option maxHeartbeats 4000000 in
set_option maxRecDepth 100000 in
theorem c_X3_member_gC (l : Launch) (D : va_G) (cy : Nat → ClassId) (a : Nat → Nat) (σ : St) (j i : Nat) (hj : j < 12) (hi : i < 12) : CI l yX3_member cX3_member 3 (some .int) (rmOf 0 0) D cy (wX cy a) (AX a) [.ref (a 11), .int (nI j), .int (nI i)] σ (fun r τ => τ = σ ∧ r = σ.2.1 52 ((j * 12) + i)) := by
  refine c_of (lv := [(0, .ref (a 11)), (1, .int (nI j)), (2, .int (nI i))]) rfl (Nat.le_of_ble_eq_true rfl) rfl ?_
  intro p e s m args below meth c ls E h hr hk hl
  have hx := E.1
  have hb := E.2.1
  refine lv_aload_n hx hb dX3_member_0 rfl (lv_at hl 0 rfl) ?_
  refine r_get E h 1 (v := .ref (a 52)) (eX_11 cy a σ) rfl fw_X3 (by decide) fl_X3_19 rfl dX3_member_1 ?_
  refine lv_iload_n hx hb dX3_member_4 rfl (lv_at hl 1 rfl) ?_
  refine lv_aload_n hx hb dX3_member_5 rfl (lv_at hl 0 rfl) ?_
  refine r_get E h 0 (v := .int 12) (eX_11 cy a σ) rfl fw_X3 (by decide) fl_X3_15 rfl dX3_member_6 ?_
  refine n_mul (j := j) (k := 12) hx hb dX3_member_9 ?_
  refine lv_iload_n hx hb dX3_member_10 rfl (lv_at hl 2 rfl) ?_
  refine n_add (j := j * 12) (k := i) hx hb dX3_member_11 ?_
  refine r_ialdN E h (f := σ.2.1 52) (eX_52 cy a σ) (j := (j * 12) + i) (by omega) (by decide) (v := σ.2.1 52 ((j * 12) + i)) rfl dX3_member_12 ?_
  exact t_i E h hr hk ⟨rfl, rfl⟩ dX3_member_13

set_option maxHeartbeats 4000000 in
set_option maxRecDepth 100000 in
theorem c_X3_put_gN (l : Launch) (D : va_G) (cy : Nat → ClassId) (a : Nat → Nat) (σ : St) (j : Nat) (x : Int32) (z : Nat) (hj : j < 12) (hz : σ.2.1 55 j = nI z) (hw : z ≤ 80) : CV l yX3_put cX3_put 3 none (rmOf 1 22) D cy (wX cy a) (AX a) [.ref (a 12), .int (nI j), .int x] σ (fun τ => (z = 80 ∧ τ = σ) ∨ (z < 80 ∧ τ = fR (fR σ 54 (upd (σ.2.1 54) ((j * 80) + z) x)) 55 (upd (σ.2.1 55) j (nI (z + 1))))) := by
  refine c_of (lv := [(0, .ref (a 12)), (1, .int (nI j)), (2, .int x)]) rfl (Nat.le_of_ble_eq_true rfl) rfl ?_
  intro p e s m args below meth c ls E h hr hk hl
  have hx := E.1
  have hb := E.2.1
  refine lv_iload_n hx hb dX3_put_0 rfl (lv_at hl 1 rfl) ?_
  refine lv_iconst (v := 0) hx hb dX3_put_1 (by decide) ?_
  refine lv_bipush (v := 11) hx hb dX3_put_2 (by decide) ?_
  refine k_i h (q_runSN (As := [.int (nI j), .int 0, .int 11]) (rest := []) E h (c_X11_isWithin l D cy a σ (nI j) 0 11) co_X11_isWithin nl_X3_22 st_X11_isWithin in_X11 ok_X11_isWithin rfl ⟨by decide, by decide⟩ hl.1 rfl (Nat.le_of_ble_eq_true rfl) dX3_put_4 ⟨Nat.zero_le _, Nat.zero_le _⟩) (wX_fst cy a) (fun r4 τ4 H locs p4 h => ?_)
  rw [p4.1] at h
  refine lv_if_eq (tgt := 23) hx hb dX3_put_7 (by decide) (fun c7 => ?_) (fun c7 => ?_)
  · exact absurd ⟨nI_pos' (by omega), (nI_leI (a := j) (b := 11) (by omega) (by decide)).mpr (by omega)⟩ (p4.2.f c7)
  · refine lv_aload_n hx hb dX3_put_10 rfl (lv_at hl 0 rfl) ?_
    refine r_get E h 2 (v := .ref (a 55)) (eX_12 cy a σ) rfl fw_X3 (by decide) fl_X3_9 rfl dX3_put_11 ?_
    refine lv_iload_n hx hb dX3_put_14 rfl (lv_at hl 1 rfl) ?_
    refine r_ialdN E h (f := σ.2.1 55) (eX_55 cy a σ) (j := j) hj (by decide) (v := nI z) hz dX3_put_15 ?_
    refine lv_aload_n hx hb dX3_put_16 rfl (lv_at hl 0 rfl) ?_
    refine r_get E h 0 (v := .int 80) (eX_12 cy a σ) rfl fw_X3 (by decide) fl_X3_15 rfl dX3_put_17 ?_
    refine lv_icmp_lt (tgt := 24) hx hb dX3_put_20 (by decide) (fun c20 => ?_) (fun c20 => ?_)
    · have c20 : z < 80 := n_lt (by omega) (by decide) c20
      refine lv_aload_n hx hb dX3_put_24 rfl (lv_at hl 0 rfl) ?_
      refine r_get E h 1 (v := .ref (a 54)) (eX_12 cy a σ) rfl fw_X3 (by decide) fl_X3_19 rfl dX3_put_25 ?_
      refine lv_iload_n hx hb dX3_put_28 rfl (lv_at hl 1 rfl) ?_
      refine lv_aload_n hx hb dX3_put_29 rfl (lv_at hl 0 rfl) ?_
      refine r_get E h 0 (v := .int 80) (eX_12 cy a σ) rfl fw_X3 (by decide) fl_X3_15 rfl dX3_put_30 ?_
      refine n_mul (j := j) (k := 80) hx hb dX3_put_33 ?_
      refine lv_aload_n hx hb dX3_put_34 rfl (lv_at hl 0 rfl) ?_
      refine r_get E h 2 (v := .ref (a 55)) (eX_12 cy a σ) rfl fw_X3 (by decide) fl_X3_9 rfl dX3_put_35 ?_
      refine lv_iload_n hx hb dX3_put_38 rfl (lv_at hl 1 rfl) ?_
      refine r_ialdN E h (f := σ.2.1 55) (eX_55 cy a σ) (j := j) hj (by decide) (v := nI z) hz dX3_put_39 ?_
      refine n_add (j := j * 80) (k := z) hx hb dX3_put_40 ?_
      refine lv_iload_n hx hb dX3_put_41 rfl (lv_at hl 2 rfl) ?_
      refine r_iastN E h (f := σ.2.1 54) (eX_54 cy a σ) (j := (j * 80) + z) (by omega) (by decide) (qX_54 cy a σ (upd (σ.2.1 54) ((j * 80) + z) x)) dX3_put_42 (fun H locs h => ?_)
      refine lv_aload_n hx hb dX3_put_43 rfl (lv_at hl 0 rfl) ?_
      refine r_get E h 2 (v := .ref (a 55)) (eX_12 cy a (fR σ 54 (upd (σ.2.1 54) ((j * 80) + z) x))) rfl fw_X3 (by decide) fl_X3_9 rfl dX3_put_44 ?_
      refine lv_iload_n hx hb dX3_put_47 rfl (lv_at hl 1 rfl) ?_
      refine lv_dup2_11 hx hb dX3_put_48 rfl rfl ?_
      refine r_ialdN E h (f := σ.2.1 55) (eX_55 cy a (fR σ 54 (upd (σ.2.1 54) ((j * 80) + z) x))) (j := j) hj (by decide) (v := nI z) hz dX3_put_49 ?_
      refine lv_iconst (v := 1) hx hb dX3_put_50 (by decide) ?_
      refine n_add (j := z) (k := 1) hx hb dX3_put_51 ?_
      refine r_iastN E h (f := σ.2.1 55) (eX_55 cy a (fR σ 54 (upd (σ.2.1 54) ((j * 80) + z) x))) (j := j) hj (by decide) (qX_55 cy a (fR σ 54 (upd (σ.2.1 54) ((j * 80) + z) x)) (upd (σ.2.1 55) j (nI (z + 1)))) dX3_put_52 (fun H locs h => ?_)
      exact t_v E h hr hk (Or.inr ⟨c20, rfl⟩) dX3_put_53
    · have c20 : 80 ≤ z := n_nlt (by omega) (by decide) c20
      exact t_v E h hr hk (Or.inl ⟨by omega, rfl⟩) dX3_put_23

set_option maxHeartbeats 4000000 in
set_option maxRecDepth 100000 in
theorem c_X3_member_gN (l : Launch) (D : va_G) (cy : Nat → ClassId) (a : Nat → Nat) (σ : St) (j i : Nat) (hj : j < 12) (hi : i < 80) : CI l yX3_member cX3_member 3 (some .int) (rmOf 0 0) D cy (wX cy a) (AX a) [.ref (a 12), .int (nI j), .int (nI i)] σ (fun r τ => τ = σ ∧ r = σ.2.1 54 ((j * 80) + i)) := by
  refine c_of (lv := [(0, .ref (a 12)), (1, .int (nI j)), (2, .int (nI i))]) rfl (Nat.le_of_ble_eq_true rfl) rfl ?_
  intro p e s m args below meth c ls E h hr hk hl
  have hx := E.1
  have hb := E.2.1
  refine lv_aload_n hx hb dX3_member_0 rfl (lv_at hl 0 rfl) ?_
  refine r_get E h 1 (v := .ref (a 54)) (eX_12 cy a σ) rfl fw_X3 (by decide) fl_X3_19 rfl dX3_member_1 ?_
  refine lv_iload_n hx hb dX3_member_4 rfl (lv_at hl 1 rfl) ?_
  refine lv_aload_n hx hb dX3_member_5 rfl (lv_at hl 0 rfl) ?_
  refine r_get E h 0 (v := .int 80) (eX_12 cy a σ) rfl fw_X3 (by decide) fl_X3_15 rfl dX3_member_6 ?_
  refine n_mul (j := j) (k := 80) hx hb dX3_member_9 ?_
  refine lv_iload_n hx hb dX3_member_10 rfl (lv_at hl 2 rfl) ?_
  refine n_add (j := j * 80) (k := i) hx hb dX3_member_11 ?_
  refine r_ialdN E h (f := σ.2.1 54) (eX_54 cy a σ) (j := (j * 80) + i) (by omega) (by decide) (v := σ.2.1 54 ((j * 80) + i)) rfl dX3_member_12 ?_
  exact t_i E h hr hk ⟨rfl, rfl⟩ dX3_member_13

set_option maxHeartbeats 4000000 in
set_option maxRecDepth 100000 in
theorem c_X3_put_gT (l : Launch) (D : va_G) (cy : Nat → ClassId) (a : Nat → Nat) (σ : St) (j : Nat) (x : Int32) (z : Nat) (hj : j < 12) (hz : σ.2.1 57 j = nI z) (hw : z ≤ 60) : CV l yX3_put cX3_put 3 none (rmOf 1 22) D cy (wX cy a) (AX a) [.ref (a 13), .int (nI j), .int x] σ (fun τ => (z = 60 ∧ τ = σ) ∨ (z < 60 ∧ τ = fR (fR σ 56 (upd (σ.2.1 56) ((j * 60) + z) x)) 57 (upd (σ.2.1 57) j (nI (z + 1))))) := by
  refine c_of (lv := [(0, .ref (a 13)), (1, .int (nI j)), (2, .int x)]) rfl (Nat.le_of_ble_eq_true rfl) rfl ?_
  intro p e s m args below meth c ls E h hr hk hl
  have hx := E.1
  have hb := E.2.1
  refine lv_iload_n hx hb dX3_put_0 rfl (lv_at hl 1 rfl) ?_
  refine lv_iconst (v := 0) hx hb dX3_put_1 (by decide) ?_
  refine lv_bipush (v := 11) hx hb dX3_put_2 (by decide) ?_
  refine k_i h (q_runSN (As := [.int (nI j), .int 0, .int 11]) (rest := []) E h (c_X11_isWithin l D cy a σ (nI j) 0 11) co_X11_isWithin nl_X3_22 st_X11_isWithin in_X11 ok_X11_isWithin rfl ⟨by decide, by decide⟩ hl.1 rfl (Nat.le_of_ble_eq_true rfl) dX3_put_4 ⟨Nat.zero_le _, Nat.zero_le _⟩) (wX_fst cy a) (fun r4 τ4 H locs p4 h => ?_)
  rw [p4.1] at h
  refine lv_if_eq (tgt := 23) hx hb dX3_put_7 (by decide) (fun c7 => ?_) (fun c7 => ?_)
  · exact absurd ⟨nI_pos' (by omega), (nI_leI (a := j) (b := 11) (by omega) (by decide)).mpr (by omega)⟩ (p4.2.f c7)
  · refine lv_aload_n hx hb dX3_put_10 rfl (lv_at hl 0 rfl) ?_
    refine r_get E h 2 (v := .ref (a 57)) (eX_13 cy a σ) rfl fw_X3 (by decide) fl_X3_9 rfl dX3_put_11 ?_
    refine lv_iload_n hx hb dX3_put_14 rfl (lv_at hl 1 rfl) ?_
    refine r_ialdN E h (f := σ.2.1 57) (eX_57 cy a σ) (j := j) hj (by decide) (v := nI z) hz dX3_put_15 ?_
    refine lv_aload_n hx hb dX3_put_16 rfl (lv_at hl 0 rfl) ?_
    refine r_get E h 0 (v := .int 60) (eX_13 cy a σ) rfl fw_X3 (by decide) fl_X3_15 rfl dX3_put_17 ?_
    refine lv_icmp_lt (tgt := 24) hx hb dX3_put_20 (by decide) (fun c20 => ?_) (fun c20 => ?_)
    · have c20 : z < 60 := n_lt (by omega) (by decide) c20
      refine lv_aload_n hx hb dX3_put_24 rfl (lv_at hl 0 rfl) ?_
      refine r_get E h 1 (v := .ref (a 56)) (eX_13 cy a σ) rfl fw_X3 (by decide) fl_X3_19 rfl dX3_put_25 ?_
      refine lv_iload_n hx hb dX3_put_28 rfl (lv_at hl 1 rfl) ?_
      refine lv_aload_n hx hb dX3_put_29 rfl (lv_at hl 0 rfl) ?_
      refine r_get E h 0 (v := .int 60) (eX_13 cy a σ) rfl fw_X3 (by decide) fl_X3_15 rfl dX3_put_30 ?_
      refine n_mul (j := j) (k := 60) hx hb dX3_put_33 ?_
      refine lv_aload_n hx hb dX3_put_34 rfl (lv_at hl 0 rfl) ?_
      refine r_get E h 2 (v := .ref (a 57)) (eX_13 cy a σ) rfl fw_X3 (by decide) fl_X3_9 rfl dX3_put_35 ?_
      refine lv_iload_n hx hb dX3_put_38 rfl (lv_at hl 1 rfl) ?_
      refine r_ialdN E h (f := σ.2.1 57) (eX_57 cy a σ) (j := j) hj (by decide) (v := nI z) hz dX3_put_39 ?_
      refine n_add (j := j * 60) (k := z) hx hb dX3_put_40 ?_
      refine lv_iload_n hx hb dX3_put_41 rfl (lv_at hl 2 rfl) ?_
      refine r_iastN E h (f := σ.2.1 56) (eX_56 cy a σ) (j := (j * 60) + z) (by omega) (by decide) (qX_56 cy a σ (upd (σ.2.1 56) ((j * 60) + z) x)) dX3_put_42 (fun H locs h => ?_)
      refine lv_aload_n hx hb dX3_put_43 rfl (lv_at hl 0 rfl) ?_
      refine r_get E h 2 (v := .ref (a 57)) (eX_13 cy a (fR σ 56 (upd (σ.2.1 56) ((j * 60) + z) x))) rfl fw_X3 (by decide) fl_X3_9 rfl dX3_put_44 ?_
      refine lv_iload_n hx hb dX3_put_47 rfl (lv_at hl 1 rfl) ?_
      refine lv_dup2_11 hx hb dX3_put_48 rfl rfl ?_
      refine r_ialdN E h (f := σ.2.1 57) (eX_57 cy a (fR σ 56 (upd (σ.2.1 56) ((j * 60) + z) x))) (j := j) hj (by decide) (v := nI z) hz dX3_put_49 ?_
      refine lv_iconst (v := 1) hx hb dX3_put_50 (by decide) ?_
      refine n_add (j := z) (k := 1) hx hb dX3_put_51 ?_
      refine r_iastN E h (f := σ.2.1 57) (eX_57 cy a (fR σ 56 (upd (σ.2.1 56) ((j * 60) + z) x))) (j := j) hj (by decide) (qX_57 cy a (fR σ 56 (upd (σ.2.1 56) ((j * 60) + z) x)) (upd (σ.2.1 57) j (nI (z + 1)))) dX3_put_52 (fun H locs h => ?_)
      exact t_v E h hr hk (Or.inr ⟨c20, rfl⟩) dX3_put_53
    · have c20 : 60 ≤ z := n_nlt (by omega) (by decide) c20
      exact t_v E h hr hk (Or.inl ⟨by omega, rfl⟩) dX3_put_23

set_option maxHeartbeats 4000000 in
set_option maxRecDepth 100000 in
theorem c_X3_member_gT (l : Launch) (D : va_G) (cy : Nat → ClassId) (a : Nat → Nat) (σ : St) (j i : Nat) (hj : j < 12) (hi : i < 60) : CI l yX3_member cX3_member 3 (some .int) (rmOf 0 0) D cy (wX cy a) (AX a) [.ref (a 13), .int (nI j), .int (nI i)] σ (fun r τ => τ = σ ∧ r = σ.2.1 56 ((j * 60) + i)) := by
  refine c_of (lv := [(0, .ref (a 13)), (1, .int (nI j)), (2, .int (nI i))]) rfl (Nat.le_of_ble_eq_true rfl) rfl ?_
  intro p e s m args below meth c ls E h hr hk hl
  have hx := E.1
  have hb := E.2.1
  refine lv_aload_n hx hb dX3_member_0 rfl (lv_at hl 0 rfl) ?_
  refine r_get E h 1 (v := .ref (a 56)) (eX_13 cy a σ) rfl fw_X3 (by decide) fl_X3_19 rfl dX3_member_1 ?_
  refine lv_iload_n hx hb dX3_member_4 rfl (lv_at hl 1 rfl) ?_
  refine lv_aload_n hx hb dX3_member_5 rfl (lv_at hl 0 rfl) ?_
  refine r_get E h 0 (v := .int 60) (eX_13 cy a σ) rfl fw_X3 (by decide) fl_X3_15 rfl dX3_member_6 ?_
  refine n_mul (j := j) (k := 60) hx hb dX3_member_9 ?_
  refine lv_iload_n hx hb dX3_member_10 rfl (lv_at hl 2 rfl) ?_
  refine n_add (j := j * 60) (k := i) hx hb dX3_member_11 ?_
  refine r_ialdN E h (f := σ.2.1 56) (eX_56 cy a σ) (j := (j * 60) + i) (by omega) (by decide) (v := σ.2.1 56 ((j * 60) + i)) rfl dX3_member_12 ?_
  exact t_i E h hr hk ⟨rfl, rfl⟩ dX3_member_13

set_option maxHeartbeats 4000000 in
set_option maxRecDepth 100000 in
theorem c_X3_put_gR (l : Launch) (D : va_G) (cy : Nat → ClassId) (a : Nat → Nat) (σ : St) (j : Nat) (x : Int32) (z : Nat) (hj : j < 12) (hz : σ.2.1 59 j = nI z) (hw : z ≤ 40) : CV l yX3_put cX3_put 3 none (rmOf 1 22) D cy (wX cy a) (AX a) [.ref (a 14), .int (nI j), .int x] σ (fun τ => (z = 40 ∧ τ = σ) ∨ (z < 40 ∧ τ = fR (fR σ 58 (upd (σ.2.1 58) ((j * 40) + z) x)) 59 (upd (σ.2.1 59) j (nI (z + 1))))) := by
  refine c_of (lv := [(0, .ref (a 14)), (1, .int (nI j)), (2, .int x)]) rfl (Nat.le_of_ble_eq_true rfl) rfl ?_
  intro p e s m args below meth c ls E h hr hk hl
  have hx := E.1
  have hb := E.2.1
  refine lv_iload_n hx hb dX3_put_0 rfl (lv_at hl 1 rfl) ?_
  refine lv_iconst (v := 0) hx hb dX3_put_1 (by decide) ?_
  refine lv_bipush (v := 11) hx hb dX3_put_2 (by decide) ?_
  refine k_i h (q_runSN (As := [.int (nI j), .int 0, .int 11]) (rest := []) E h (c_X11_isWithin l D cy a σ (nI j) 0 11) co_X11_isWithin nl_X3_22 st_X11_isWithin in_X11 ok_X11_isWithin rfl ⟨by decide, by decide⟩ hl.1 rfl (Nat.le_of_ble_eq_true rfl) dX3_put_4 ⟨Nat.zero_le _, Nat.zero_le _⟩) (wX_fst cy a) (fun r4 τ4 H locs p4 h => ?_)
  rw [p4.1] at h
  refine lv_if_eq (tgt := 23) hx hb dX3_put_7 (by decide) (fun c7 => ?_) (fun c7 => ?_)
  · exact absurd ⟨nI_pos' (by omega), (nI_leI (a := j) (b := 11) (by omega) (by decide)).mpr (by omega)⟩ (p4.2.f c7)
  · refine lv_aload_n hx hb dX3_put_10 rfl (lv_at hl 0 rfl) ?_
    refine r_get E h 2 (v := .ref (a 59)) (eX_14 cy a σ) rfl fw_X3 (by decide) fl_X3_9 rfl dX3_put_11 ?_
    refine lv_iload_n hx hb dX3_put_14 rfl (lv_at hl 1 rfl) ?_
    refine r_ialdN E h (f := σ.2.1 59) (eX_59 cy a σ) (j := j) hj (by decide) (v := nI z) hz dX3_put_15 ?_
    refine lv_aload_n hx hb dX3_put_16 rfl (lv_at hl 0 rfl) ?_
    refine r_get E h 0 (v := .int 40) (eX_14 cy a σ) rfl fw_X3 (by decide) fl_X3_15 rfl dX3_put_17 ?_
    refine lv_icmp_lt (tgt := 24) hx hb dX3_put_20 (by decide) (fun c20 => ?_) (fun c20 => ?_)
    · have c20 : z < 40 := n_lt (by omega) (by decide) c20
      refine lv_aload_n hx hb dX3_put_24 rfl (lv_at hl 0 rfl) ?_
      refine r_get E h 1 (v := .ref (a 58)) (eX_14 cy a σ) rfl fw_X3 (by decide) fl_X3_19 rfl dX3_put_25 ?_
      refine lv_iload_n hx hb dX3_put_28 rfl (lv_at hl 1 rfl) ?_
      refine lv_aload_n hx hb dX3_put_29 rfl (lv_at hl 0 rfl) ?_
      refine r_get E h 0 (v := .int 40) (eX_14 cy a σ) rfl fw_X3 (by decide) fl_X3_15 rfl dX3_put_30 ?_
      refine n_mul (j := j) (k := 40) hx hb dX3_put_33 ?_
      refine lv_aload_n hx hb dX3_put_34 rfl (lv_at hl 0 rfl) ?_
      refine r_get E h 2 (v := .ref (a 59)) (eX_14 cy a σ) rfl fw_X3 (by decide) fl_X3_9 rfl dX3_put_35 ?_
      refine lv_iload_n hx hb dX3_put_38 rfl (lv_at hl 1 rfl) ?_
      refine r_ialdN E h (f := σ.2.1 59) (eX_59 cy a σ) (j := j) hj (by decide) (v := nI z) hz dX3_put_39 ?_
      refine n_add (j := j * 40) (k := z) hx hb dX3_put_40 ?_
      refine lv_iload_n hx hb dX3_put_41 rfl (lv_at hl 2 rfl) ?_
      refine r_iastN E h (f := σ.2.1 58) (eX_58 cy a σ) (j := (j * 40) + z) (by omega) (by decide) (qX_58 cy a σ (upd (σ.2.1 58) ((j * 40) + z) x)) dX3_put_42 (fun H locs h => ?_)
      refine lv_aload_n hx hb dX3_put_43 rfl (lv_at hl 0 rfl) ?_
      refine r_get E h 2 (v := .ref (a 59)) (eX_14 cy a (fR σ 58 (upd (σ.2.1 58) ((j * 40) + z) x))) rfl fw_X3 (by decide) fl_X3_9 rfl dX3_put_44 ?_
      refine lv_iload_n hx hb dX3_put_47 rfl (lv_at hl 1 rfl) ?_
      refine lv_dup2_11 hx hb dX3_put_48 rfl rfl ?_
      refine r_ialdN E h (f := σ.2.1 59) (eX_59 cy a (fR σ 58 (upd (σ.2.1 58) ((j * 40) + z) x))) (j := j) hj (by decide) (v := nI z) hz dX3_put_49 ?_
      refine lv_iconst (v := 1) hx hb dX3_put_50 (by decide) ?_
      refine n_add (j := z) (k := 1) hx hb dX3_put_51 ?_
      refine r_iastN E h (f := σ.2.1 59) (eX_59 cy a (fR σ 58 (upd (σ.2.1 58) ((j * 40) + z) x))) (j := j) hj (by decide) (qX_59 cy a (fR σ 58 (upd (σ.2.1 58) ((j * 40) + z) x)) (upd (σ.2.1 59) j (nI (z + 1)))) dX3_put_52 (fun H locs h => ?_)
      exact t_v E h hr hk (Or.inr ⟨c20, rfl⟩) dX3_put_53
    · have c20 : 40 ≤ z := n_nlt (by omega) (by decide) c20
      exact t_v E h hr hk (Or.inl ⟨by omega, rfl⟩) dX3_put_23

set_option maxHeartbeats 4000000 in
set_option maxRecDepth 100000 in
theorem c_X3_member_gR (l : Launch) (D : va_G) (cy : Nat → ClassId) (a : Nat → Nat) (σ : St) (j i : Nat) (hj : j < 12) (hi : i < 40) : CI l yX3_member cX3_member 3 (some .int) (rmOf 0 0) D cy (wX cy a) (AX a) [.ref (a 14), .int (nI j), .int (nI i)] σ (fun r τ => τ = σ ∧ r = σ.2.1 58 ((j * 40) + i)) := by
  refine c_of (lv := [(0, .ref (a 14)), (1, .int (nI j)), (2, .int (nI i))]) rfl (Nat.le_of_ble_eq_true rfl) rfl ?_
  intro p e s m args below meth c ls E h hr hk hl
  have hx := E.1
  have hb := E.2.1
  refine lv_aload_n hx hb dX3_member_0 rfl (lv_at hl 0 rfl) ?_
  refine r_get E h 1 (v := .ref (a 58)) (eX_14 cy a σ) rfl fw_X3 (by decide) fl_X3_19 rfl dX3_member_1 ?_
  refine lv_iload_n hx hb dX3_member_4 rfl (lv_at hl 1 rfl) ?_
  refine lv_aload_n hx hb dX3_member_5 rfl (lv_at hl 0 rfl) ?_
  refine r_get E h 0 (v := .int 40) (eX_14 cy a σ) rfl fw_X3 (by decide) fl_X3_15 rfl dX3_member_6 ?_
  refine n_mul (j := j) (k := 40) hx hb dX3_member_9 ?_
  refine lv_iload_n hx hb dX3_member_10 rfl (lv_at hl 2 rfl) ?_
  refine n_add (j := j * 40) (k := i) hx hb dX3_member_11 ?_
  refine r_ialdN E h (f := σ.2.1 58) (eX_58 cy a σ) (j := (j * 40) + i) (by omega) (by decide) (v := σ.2.1 58 ((j * 40) + i)) rfl dX3_member_12 ?_
  exact t_i E h hr hk ⟨rfl, rfl⟩ dX3_member_13

set_option maxHeartbeats 4000000 in
set_option maxRecDepth 100000 in
theorem c_X8_add_taps (l : Launch) (D : va_G) (cy : Nat → ClassId) (a : Nat → Nat) (σ : St) (j : Nat) (x y w : Int32) (n z : Nat) (hj : j < 12) (hn : σ.1 14 = nI n) (hn6 : n ≤ 60) (hz : σ.2.1 57 j = nI z) (hw : z ≤ 60) : CI l yX8_add cX8_add 5 (some .int) (rmOf 2 44) D cy (wX cy a) (AX a) [.ref (a 9), .int (nI j), .int x, .int y, .int w] σ (fun r τ => (n = 60 ∧ r = -5 ∧ τ = σ) ∨ (n < 60 ∧ r = nI (n + 1) ∧ ((z = 60 ∧ τ = fF (fR (fR (fR σ 46 (upd (σ.2.1 46) n x)) 47 (upd (σ.2.1 47) n y)) 48 (upd (σ.2.1 48) n w)) 14 (nI (n + 1))) ∨ (z < 60 ∧ τ = fF (fR (fR (fR (fR (fR σ 46 (upd (σ.2.1 46) n x)) 47 (upd (σ.2.1 47) n y)) 48 (upd (σ.2.1 48) n w)) 56 (upd (σ.2.1 56) ((j * 60) + z) (nI n))) 57 (upd (σ.2.1 57) j (nI (z + 1)))) 14 (nI (n + 1)))))) := by
  refine c_of (lv := [(0, .ref (a 9)), (1, .int (nI j)), (2, .int x), (3, .int y), (4, .int w)]) rfl (Nat.le_of_ble_eq_true rfl) rfl ?_
  intro p e s m args below meth c ls E h hr hk hl
  have hx := E.1
  have hb := E.2.1
  refine lv_aload_n hx hb dX8_add_0 rfl (lv_at hl 0 rfl) ?_
  refine r_get E h 4 (v := .int (nI n)) (eX_9 cy a σ) rfl fw_X8 (by decide) fl_X8_30 (congrArg (fun z => some (Value.int z)) hn) dX8_add_1 ?_
  refine lv_aload_n hx hb dX8_add_4 rfl (lv_at hl 0 rfl) ?_
  refine r_get E h 0 (v := .ref (a 46)) (eX_9 cy a σ) rfl fw_X8 (by decide) fl_X8_9 rfl dX8_add_5 ?_
  refine r_alen E h (eX_46 cy a σ) (v := 60) rfl dX8_add_8 ?_
  refine lv_icmp_lt (tgt := 15) hx hb dX8_add_9 (by decide) (fun c9 => ?_) (fun c9 => ?_)
  · have c9 : n < 60 := n_lt (by omega) (by decide) c9
    refine lv_aload_n hx hb dX8_add_15 rfl (lv_at hl 0 rfl) ?_
    refine r_get E h 0 (v := .ref (a 46)) (eX_9 cy a σ) rfl fw_X8 (by decide) fl_X8_9 rfl dX8_add_16 ?_
    refine lv_aload_n hx hb dX8_add_19 rfl (lv_at hl 0 rfl) ?_
    refine r_get E h 4 (v := .int (nI n)) (eX_9 cy a σ) rfl fw_X8 (by decide) fl_X8_30 (congrArg (fun z => some (Value.int z)) hn) dX8_add_20 ?_
    refine lv_iload_n hx hb dX8_add_23 rfl (lv_at hl 2 rfl) ?_
    refine r_iastN E h (f := σ.2.1 46) (eX_46 cy a σ) (j := n) c9 (by decide) (qX_46 cy a σ (upd (σ.2.1 46) n x)) dX8_add_24 (fun H locs h => ?_)
    refine lv_aload_n hx hb dX8_add_25 rfl (lv_at hl 0 rfl) ?_
    refine r_get E h 1 (v := .ref (a 47)) (eX_9 cy a (fR σ 46 (upd (σ.2.1 46) n x))) rfl fw_X8 (by decide) fl_X8_15 rfl dX8_add_26 ?_
    refine lv_aload_n hx hb dX8_add_29 rfl (lv_at hl 0 rfl) ?_
    refine r_get E h 4 (v := .int (nI n)) (eX_9 cy a (fR σ 46 (upd (σ.2.1 46) n x))) rfl fw_X8 (by decide) fl_X8_30 (congrArg (fun z => some (Value.int z)) hn) dX8_add_30 ?_
    refine lv_iload_n hx hb dX8_add_33 rfl (lv_at hl 3 rfl) ?_
    refine r_iastN E h (f := σ.2.1 47) (eX_47 cy a (fR σ 46 (upd (σ.2.1 46) n x))) (j := n) c9 (by decide) (qX_47 cy a (fR σ 46 (upd (σ.2.1 46) n x)) (upd (σ.2.1 47) n y)) dX8_add_34 (fun H locs h => ?_)
    refine lv_aload_n hx hb dX8_add_35 rfl (lv_at hl 0 rfl) ?_
    refine r_get E h 2 (v := .ref (a 48)) (eX_9 cy a (fR (fR σ 46 (upd (σ.2.1 46) n x)) 47 (upd (σ.2.1 47) n y))) rfl fw_X8 (by decide) fl_X8_18 rfl dX8_add_36 ?_
    refine lv_aload_n hx hb dX8_add_39 rfl (lv_at hl 0 rfl) ?_
    refine r_get E h 4 (v := .int (nI n)) (eX_9 cy a (fR (fR σ 46 (upd (σ.2.1 46) n x)) 47 (upd (σ.2.1 47) n y))) rfl fw_X8 (by decide) fl_X8_30 (congrArg (fun z => some (Value.int z)) hn) dX8_add_40 ?_
    refine lv_iload hx hb dX8_add_43 (lv_at hl 4 rfl) ?_
    refine r_iastN E h (f := σ.2.1 48) (eX_48 cy a (fR (fR σ 46 (upd (σ.2.1 46) n x)) 47 (upd (σ.2.1 47) n y))) (j := n) c9 (by decide) (qX_48 cy a (fR (fR σ 46 (upd (σ.2.1 46) n x)) 47 (upd (σ.2.1 47) n y)) (upd (σ.2.1 48) n w)) dX8_add_45 (fun H locs h => ?_)
    refine lv_aload_n hx hb dX8_add_46 rfl (lv_at hl 0 rfl) ?_
    refine r_get E h 3 (v := .ref (a 13)) (eX_9 cy a (fR (fR (fR σ 46 (upd (σ.2.1 46) n x)) 47 (upd (σ.2.1 47) n y)) 48 (upd (σ.2.1 48) n w))) rfl fw_X8 (by decide) fl_X8_26 rfl dX8_add_47 ?_
    refine lv_iload_n hx hb dX8_add_50 rfl (lv_at hl 1 rfl) ?_
    refine lv_aload_n hx hb dX8_add_51 rfl (lv_at hl 0 rfl) ?_
    refine r_get E h 4 (v := .int (nI n)) (eX_9 cy a (fR (fR (fR σ 46 (upd (σ.2.1 46) n x)) 47 (upd (σ.2.1 47) n y)) 48 (upd (σ.2.1 48) n w))) rfl fw_X8 (by decide) fl_X8_30 (congrArg (fun z => some (Value.int z)) hn) dX8_add_52 ?_
    refine k_v h (q_runV (As := [.int (nI j), .int (nI n)]) (rest := []) E h (c_X3_put_gT l D cy a (fR (fR (fR σ 46 (upd (σ.2.1 46) n x)) 47 (upd (σ.2.1 47) n y)) 48 (upd (σ.2.1 48) n w)) j (nI n) z hj hz hw) co_X3_put ml_X8_34 im_X3_put se_X3_put in_X3 (eX_13 cy a (fR (fR (fR σ 46 (upd (σ.2.1 46) n x)) 47 (upd (σ.2.1 47) n y)) 48 (upd (σ.2.1 48) n w))) rfl ok_X3_put rfl ⟨by decide, by decide⟩ hl.1 rfl (Nat.le_of_ble_eq_true rfl) dX8_add_55 ⟨Nat.zero_le _, Nat.zero_le _⟩) (wX_fst cy a) (fun τ55 H locs p55 h => ?_)
    have hF : τ55.1 14 = nI n := by
        rcases p55 with ⟨_, e⟩ | ⟨_, e⟩ <;> rw [e] <;> exact hn
    refine lv_aload_n hx hb dX8_add_58 rfl (lv_at hl 0 rfl) ?_
    refine lv_dup hx hb dX8_add_59 rfl ?_
    refine r_get E h 4 (v := .int (nI n)) (eX_9 cy a τ55) rfl fw_X8 (by decide) fl_X8_30 (congrArg (fun z => some (Value.int z)) hF) dX8_add_60 ?_
    refine lv_iconst (v := 1) hx hb dX8_add_63 (by decide) ?_
    refine n_add (j := n) (k := 1) hx hb dX8_add_64 ?_
    refine r_put E h 4 (ty := .int) (eX_9 cy a τ55) rfl fw_X8 tyX8_ok nmX8 (by decide) fl_X8_30 rfl (by decide +kernel) rfl rfl (Nat.le_of_ble_eq_true rfl) (sX_14 cy a τ55 (nI (n + 1))) dX8_add_65 (fun H locs h => ?_)
    refine lv_aload_n hx hb dX8_add_68 rfl (lv_at hl 0 rfl) ?_
    refine r_get E h 4 (v := .int (nI (n + 1))) (eX_9 cy a (fF τ55 14 (nI (n + 1)))) rfl fw_X8 (by decide) fl_X8_30 rfl dX8_add_69 ?_
    exact t_i E h hr hk (Or.inr ⟨c9, rfl, p55.elim (fun q => Or.inl ⟨q.1, by rw [q.2]⟩) (fun q => Or.inr ⟨q.1, by rw [q.2]; rfl⟩)⟩) dX8_add_72
  · have c9 : 60 ≤ n := n_nlt (by omega) (by decide) c9
    refine lv_bipush (v := -5) hx hb dX8_add_12 (by decide) ?_
    exact t_i E h hr hk (Or.inl ⟨by omega, rfl, rfl⟩) dX8_add_14

set_option maxHeartbeats 4000000 in
set_option maxRecDepth 100000 in
theorem c_X8_isIn_taps (l : Launch) (D : va_G) (cy : Nat → ClassId) (a : Nat → Nat) (σ : St) (x y : Int32) (hx6 : vp_in x 60) : CI l yX8_isIn cX8_isIn 3 (some .boolean) (rmOf 1 22) D cy (wX cy a) (AX a) [.ref (a 9), .int x, .int y] σ (fun r τ => τ = σ ∧ (r = 0 ∨ r = 1)) := by
  refine c_of (lv := [(0, .ref (a 9)), (1, .int x), (2, .int y)]) rfl (Nat.le_of_ble_eq_true rfl) rfl ?_
  intro p e s m args below meth c ls E h hr hk hl
  have hx := E.1
  have hb := E.2.1
  refine lv_iload_n hx hb dX8_isIn_0 rfl (lv_at hl 2 rfl) ?_
  refine lv_aload_n hx hb dX8_isIn_1 rfl (lv_at hl 0 rfl) ?_
  refine r_get E h 1 (v := .ref (a 47)) (eX_9 cy a σ) rfl fw_X8 (by decide) fl_X8_15 rfl dX8_isIn_2 ?_
  refine lv_iload_n hx hb dX8_isIn_5 rfl (lv_at hl 1 rfl) ?_
  refine r_iald E h (f := σ.2.1 47) (eX_47 cy a σ) hx6 dX8_isIn_6 ?_
  refine lv_aload_n hx hb dX8_isIn_7 rfl (lv_at hl 0 rfl) ?_
  refine r_get E h 2 (v := .ref (a 48)) (eX_9 cy a σ) rfl fw_X8 (by decide) fl_X8_18 rfl dX8_isIn_8 ?_
  refine lv_iload_n hx hb dX8_isIn_11 rfl (lv_at hl 1 rfl) ?_
  refine r_iald E h (f := σ.2.1 48) (eX_48 cy a σ) hx6 dX8_isIn_12 ?_
  refine k_i h (q_runSN (As := [.int y, .int (σ.2.1 47 x.toNatClampNeg), .int (σ.2.1 48 x.toNatClampNeg)]) (rest := []) E h (c_X11_isWithin l D cy a σ y (σ.2.1 47 x.toNatClampNeg) (σ.2.1 48 x.toNatClampNeg)) co_X11_isWithin nl_X8_38 st_X11_isWithin in_X11 ok_X11_isWithin rfl ⟨by decide, by decide⟩ hl.1 rfl (Nat.le_of_ble_eq_true rfl) dX8_isIn_13 ⟨Nat.zero_le _, Nat.zero_le _⟩) (wX_fst cy a) (fun r13 τ13 H locs p13 h => ?_)
  rw [p13.1] at h
  exact t_z E h hr hk p13.2.z ⟨rfl, p13.2.z⟩ dX8_isIn_16

set_option maxHeartbeats 4000000 in
set_option maxRecDepth 100000 in
theorem c_X8_hasAny_taps (l : Launch) (D : va_G) (cy : Nat → ClassId) (a : Nat → Nat) (σ : St) (j : Nat) (y : Int32) (hj : j < 12) (gg : GRP (σ.2.1 57) (σ.2.1 56) 60 60) : CI l yX8_hasAny cX8_hasAny 4 (some .boolean) (rmOf 2 44) D cy (wX cy a) (AX a) [.ref (a 9), .int (nI j), .int y] σ (fun r τ => τ = σ ∧ (r = 0 ∨ r = 1)) := by
  refine c_of (lv := [(0, .ref (a 9)), (1, .int (nI j)), (2, .int y)]) rfl (Nat.le_of_ble_eq_true rfl) rfl ?_
  intro p e s m args below meth c ls E h hr hk hl
  have hx := E.1
  have hb := E.2.1
  obtain ⟨z, hzw, hz, hm⟩ := gg j hj
  refine lv_iconst (v := 0) hx hb dX8_hasAny_0 (by decide) ?_
  refine lv_istore_n (lv' := [(3, .int 0), (0, .ref (a 9)), (1, .int (nI j)), (2, .int y)]) hx hb dX8_hasAny_1 rfl hl (by decide) rfl (fun ls hl => ?_)
  have lp2 : ∀ (f : Nat) (i : Nat) (H : Heap) (locs : List Loc) (ls : Array Slot), (i ≤ z) → (z - i) < f → HW D (AX a) s (wX cy a σ) H locs → lv_has ls 4 [(3, .int (nI i)), (0, .ref (a 9)), (1, .int (nI j)), (2, .int y)] → W p l e (rmOf 2 44) s m args below meth c H locs 0 0 (MQ below (va_Qi (fun r τ => τ = σ ∧ (r = 0 ∨ r = 1)) (fun u t => va_P D vwCl (wX cy a u) t.heap) (AX a)) args s 0 0 (AX a)) (F0 m 2 ls []) := by
    intro f
    induction f with
    | zero => intro i H locs ls _ hf; exact absurd hf (Nat.not_lt_zero _)
    | succ f ih2 =>
      intro i H locs ls hi2 hf2 h hl
      refine lv_iload_n hx hb dX8_hasAny_2 rfl (lv_at hl 0 rfl) ?_
      refine lv_aload_n hx hb dX8_hasAny_3 rfl (lv_at hl 1 rfl) ?_
      refine r_get E h 3 (v := .ref (a 13)) (eX_9 cy a σ) rfl fw_X8 (by decide) fl_X8_26 rfl dX8_hasAny_4 ?_
      refine r_get E h 2 (v := .ref (a 57)) (eX_13 cy a σ) rfl fw_X3 (by decide) fl_X8_42 rfl dX8_hasAny_7 ?_
      refine lv_iload_n hx hb dX8_hasAny_10 rfl (lv_at hl 2 rfl) ?_
      refine r_ialdN E h (f := σ.2.1 57) (eX_57 cy a σ) (j := j) hj (by decide) (v := nI z) hz dX8_hasAny_11 ?_
      refine lv_icmp_ge (tgt := 40) hx hb dX8_hasAny_12 (by decide) (fun c12 => ?_) (fun c12 => ?_)
      · refine lv_iconst (v := 0) hx hb dX8_hasAny_40 (by decide) ?_
        exact t_z E h hr hk (Or.inl rfl) ⟨rfl, Or.inl rfl⟩ dX8_hasAny_41
      · have c12 : i < z := Nat.lt_of_not_le fun q => c12 ((nI_leI (by omega) (by omega)).mpr q)
        refine lv_aload_n hx hb dX8_hasAny_15 rfl (lv_at hl 1 rfl) ?_
        refine lv_aload_n hx hb dX8_hasAny_16 rfl (lv_at hl 1 rfl) ?_
        refine r_get E h 3 (v := .ref (a 13)) (eX_9 cy a σ) rfl fw_X8 (by decide) fl_X8_26 rfl dX8_hasAny_17 ?_
        refine lv_iload_n hx hb dX8_hasAny_20 rfl (lv_at hl 2 rfl) ?_
        refine lv_iload_n hx hb dX8_hasAny_21 rfl (lv_at hl 0 rfl) ?_
        refine k_i h (q_runV (As := [.int (nI j), .int (nI i)]) (rest := [.ref (a 9)]) E h (c_X3_member_gT l D cy a σ j i hj (by omega)) co_X3_member ml_X8_45 im_X3_member se_X3_member in_X3 (eX_13 cy a σ) rfl ok_X3_member rfl ⟨by decide, by decide⟩ hl.1 rfl (Nat.le_of_ble_eq_true rfl) dX8_hasAny_22 ⟨Nat.zero_le _, Nat.zero_le _⟩) (wX_fst cy a) (fun r22 τ22 H locs p22 h => ?_)
        rw [p22.1] at h
        refine lv_iload_n hx hb dX8_hasAny_25 rfl (lv_at hl 3 rfl) ?_
        refine k_i h (q_runV (As := [.int r22, .int y]) (rest := []) E h (c_X8_isIn_taps l D cy a σ r22 y (by rw [p22.2]; exact hm i c12)) co_X8_isIn ml_X8_49 im_X8_isIn se_X8_isIn in_X8 (eX_9 cy a σ) rfl ok_X8_isIn rfl ⟨by decide, by decide⟩ hl.1 rfl (Nat.le_of_ble_eq_true rfl) dX8_hasAny_26 ⟨Nat.zero_le _, Nat.zero_le _⟩) (wX_fst cy a) (fun r26 τ26 H locs p26 h => ?_)
        rw [p26.1] at h
        refine lv_if_eq (tgt := 34) hx hb dX8_hasAny_29 (by decide) (fun c29 => ?_) (fun c29 => ?_)
        · refine lv_iinc (v := nI (i + 1)) (lv' := [(3, .int (nI (i + 1))), (0, .ref (a 9)), (1, .int (nI j)), (2, .int y)]) hx hb dX8_hasAny_34 hl (k := 0) rfl (nI_succ i).symm (by decide) rfl (fun ls hl => ?_)
          refine lv_goto (tgt := 2) hx hb dX8_hasAny_37 (by decide) ?_
          exact ih2 (i + 1) _ _ _ (by omega) (by omega) h (lv_sub hl [0, 1, 2, 3] rfl)
        · refine lv_iconst (v := 1) hx hb dX8_hasAny_32 (by decide) ?_
          exact t_z E h hr hk (Or.inr rfl) ⟨rfl, Or.inr rfl⟩ dX8_hasAny_33
  exact lp2 _ 0 _ _ _ (Nat.zero_le _) (Nat.lt_succ_self _) h (lv_sub hl [0, 1, 2, 3] rfl)

set_option maxHeartbeats 4000000 in
set_option maxRecDepth 100000 in
theorem c_X8_take_taps (l : Launch) (D : va_G) (cy : Nat → ClassId) (a : Nat → Nat) (σ : St) (j : Nat) (y x : Int32) (hj : j < 12) (gg : GRP (σ.2.1 57) (σ.2.1 56) 60 60) : CI l yX8_take cX8_take 7 (some .int) (rmOf 2 44) D cy (wX cy a) (AX a) [.ref (a 9), .int (nI j), .int y, .int x] σ (fun r τ => τ = σ ∧ True) := by
  refine c_of (lv := [(0, .ref (a 9)), (1, .int (nI j)), (2, .int y), (3, .int x)]) rfl (Nat.le_of_ble_eq_true rfl) rfl ?_
  intro p e s m args below meth c ls E h hr hk hl
  have hx := E.1
  have hb := E.2.1
  obtain ⟨z, hzw, hz, hm⟩ := gg j hj
  refine lv_iload_n hx hb dX8_take_0 rfl (lv_at hl 3 rfl) ?_
  refine lv_istore (lv' := [(4, .int x), (0, .ref (a 9)), (1, .int (nI j)), (2, .int y), (3, .int x)]) hx hb dX8_take_1 hl (by decide) rfl (fun ls hl => ?_)
  refine lv_iconst (v := 0) hx hb dX8_take_3 (by decide) ?_
  refine lv_istore (lv' := [(5, .int 0), (4, .int x), (0, .ref (a 9)), (1, .int (nI j)), (2, .int y), (3, .int x)]) hx hb dX8_take_4 hl (by decide) rfl (fun ls hl => ?_)
  have lp6 : ∀ (f : Nat) (i : Nat) (u : Int32) (H : Heap) (locs : List Loc) (ls : Array Slot), (i ≤ z) → (z - i) < f → HW D (AX a) s (wX cy a σ) H locs → lv_has ls 7 [(5, .int (nI i)), (4, .int u), (0, .ref (a 9)), (1, .int (nI j)), (2, .int y), (3, .int x)] → W p l e (rmOf 2 44) s m args below meth c H locs 0 0 (MQ below (va_Qi (fun r τ => τ = σ ∧ True) (fun u t => va_P D vwCl (wX cy a u) t.heap) (AX a)) args s 0 0 (AX a)) (F0 m 6 ls []) := by
    intro f
    induction f with
    | zero => intro i u H locs ls _ hf; exact absurd hf (Nat.not_lt_zero _)
    | succ f ih6 =>
      intro i u H locs ls hi6 hf6 h hl
      refine lv_iload hx hb dX8_take_6 (lv_at hl 0 rfl) ?_
      refine lv_aload_n hx hb dX8_take_8 rfl (lv_at hl 2 rfl) ?_
      refine r_get E h 3 (v := .ref (a 13)) (eX_9 cy a σ) rfl fw_X8 (by decide) fl_X8_26 rfl dX8_take_9 ?_
      refine r_get E h 2 (v := .ref (a 57)) (eX_13 cy a σ) rfl fw_X3 (by decide) fl_X8_42 rfl dX8_take_12 ?_
      refine lv_iload_n hx hb dX8_take_15 rfl (lv_at hl 3 rfl) ?_
      refine r_ialdN E h (f := σ.2.1 57) (eX_57 cy a σ) (j := j) hj (by decide) (v := nI z) hz dX8_take_16 ?_
      refine lv_icmp_ge (tgt := 65) hx hb dX8_take_17 (by decide) (fun c17 => ?_) (fun c17 => ?_)
      · refine lv_iload_n hx hb dX8_take_65 rfl (lv_at hl 5 rfl) ?_
        refine lv_iload hx hb dX8_take_66 (lv_at hl 1 rfl) ?_
        refine lv_isub hx hb dX8_take_68 ?_
        exact t_i E h hr hk ⟨rfl, trivial⟩ dX8_take_69
      · have c17 : i < z := Nat.lt_of_not_le fun q => c17 ((nI_leI (by omega) (by omega)).mpr q)
        refine lv_aload_n hx hb dX8_take_20 rfl (lv_at hl 2 rfl) ?_
        refine r_get E h 3 (v := .ref (a 13)) (eX_9 cy a σ) rfl fw_X8 (by decide) fl_X8_26 rfl dX8_take_21 ?_
        refine lv_iload_n hx hb dX8_take_24 rfl (lv_at hl 3 rfl) ?_
        refine lv_iload hx hb dX8_take_25 (lv_at hl 0 rfl) ?_
        refine k_i h (q_runV (As := [.int (nI j), .int (nI i)]) (rest := []) E h (c_X3_member_gT l D cy a σ j i hj (by omega)) co_X3_member ml_X8_45 im_X3_member se_X3_member in_X3 (eX_13 cy a σ) rfl ok_X3_member rfl ⟨by decide, by decide⟩ hl.1 rfl (Nat.le_of_ble_eq_true rfl) dX8_take_27 ⟨Nat.zero_le _, Nat.zero_le _⟩) (wX_fst cy a) (fun r27 τ27 H locs p27 h => ?_)
        rw [p27.1] at h
        refine lv_istore (lv' := [(6, .int r27), (5, .int (nI i)), (4, .int u), (0, .ref (a 9)), (1, .int (nI j)), (2, .int y), (3, .int x)]) hx hb dX8_take_30 hl (by decide) rfl (fun ls hl => ?_)
        refine lv_aload_n hx hb dX8_take_32 rfl (lv_at hl 3 rfl) ?_
        refine lv_iload hx hb dX8_take_33 (lv_at hl 0 rfl) ?_
        refine lv_iload_n hx hb dX8_take_35 rfl (lv_at hl 5 rfl) ?_
        refine k_i h (q_runV (As := [.int r27, .int y]) (rest := []) E h (c_X8_isIn_taps l D cy a σ r27 y (by rw [p27.2]; exact hm i c17)) co_X8_isIn ml_X8_49 im_X8_isIn se_X8_isIn in_X8 (eX_9 cy a σ) rfl ok_X8_isIn rfl ⟨by decide, by decide⟩ hl.1 rfl (Nat.le_of_ble_eq_true rfl) dX8_take_36 ⟨Nat.zero_le _, Nat.zero_le _⟩) (wX_fst cy a) (fun r36 τ36 H locs p36 h => ?_)
        rw [p36.1] at h
        refine lv_if_eq (tgt := 59) hx hb dX8_take_39 (by decide) (fun c39 => ?_) (fun c39 => ?_)
        · refine lv_iinc (v := nI (i + 1)) (lv' := [(5, .int (nI (i + 1))), (6, .int r27), (4, .int u), (0, .ref (a 9)), (1, .int (nI j)), (2, .int y), (3, .int x)]) hx hb dX8_take_59 hl (k := 1) rfl (nI_succ i).symm (by decide) rfl (fun ls hl => ?_)
          refine lv_goto (tgt := 6) hx hb dX8_take_62 (by decide) ?_
          exact ih6 (i + 1) u _ _ _ (by omega) (by omega) h (lv_sub hl [0, 2, 3, 4, 5, 6] rfl)
        · refine lv_iload hx hb dX8_take_42 (lv_at hl 2 rfl) ?_
          refine lv_iload hx hb dX8_take_44 (lv_at hl 2 rfl) ?_
          refine lv_aload_n hx hb dX8_take_46 rfl (lv_at hl 3 rfl) ?_
          refine r_get E h 0 (v := .ref (a 46)) (eX_9 cy a σ) rfl fw_X8 (by decide) fl_X8_9 rfl dX8_take_47 ?_
          refine lv_iload hx hb dX8_take_50 (lv_at hl 0 rfl) ?_
          refine r_iald E h (f := σ.2.1 46) (eX_46 cy a σ) (by rw [p27.2]; exact hm i c17) dX8_take_52 ?_
          refine r_mmin E hl.1 ml_X8_53 st_J9_min_7cf53 in_J9 co_J9_min_7cf53 ⟨Nat.le_of_ble_eq_true rfl, Nat.le_of_ble_eq_true rfl⟩ ⟨Nat.zero_le _, Nat.zero_le _⟩ dX8_take_53 ?_
          refine lv_isub hx hb dX8_take_56 ?_
          refine lv_istore (lv' := [(4, .int (u - (if (σ.2.1 46 r27.toNatClampNeg) < u then (σ.2.1 46 r27.toNatClampNeg) else u))), (6, .int r27), (5, .int (nI i)), (0, .ref (a 9)), (1, .int (nI j)), (2, .int y), (3, .int x)]) hx hb dX8_take_57 hl (by decide) rfl (fun ls hl => ?_)
          refine lv_iinc (v := nI (i + 1)) (lv' := [(5, .int (nI (i + 1))), (4, .int (u - (if (σ.2.1 46 r27.toNatClampNeg) < u then (σ.2.1 46 r27.toNatClampNeg) else u))), (6, .int r27), (0, .ref (a 9)), (1, .int (nI j)), (2, .int y), (3, .int x)]) hx hb dX8_take_59 hl (k := 2) rfl (nI_succ i).symm (by decide) rfl (fun ls hl => ?_)
          refine lv_goto (tgt := 6) hx hb dX8_take_62 (by decide) ?_
          exact ih6 (i + 1) (u - (if (σ.2.1 46 r27.toNatClampNeg) < u then (σ.2.1 46 r27.toNatClampNeg) else u)) _ _ _ (by omega) (by omega) h (lv_sub hl [0, 1, 3, 4, 5, 6] rfl)
  exact lp6 _ 0 x _ _ _ (Nat.zero_le _) (Nat.lt_succ_self _) h (lv_sub hl [0, 1, 2, 3, 4, 5] rfl)

set_option maxHeartbeats 4000000 in
set_option maxRecDepth 100000 in
theorem c_X8_add_repairs (l : Launch) (D : va_G) (cy : Nat → ClassId) (a : Nat → Nat) (σ : St) (j : Nat) (x y w : Int32) (n z : Nat) (hj : j < 12) (hn : σ.1 15 = nI n) (hn6 : n ≤ 40) (hz : σ.2.1 59 j = nI z) (hw : z ≤ 40) : CI l yX8_add cX8_add 5 (some .int) (rmOf 2 44) D cy (wX cy a) (AX a) [.ref (a 10), .int (nI j), .int x, .int y, .int w] σ (fun r τ => (n = 40 ∧ r = -5 ∧ τ = σ) ∨ (n < 40 ∧ r = nI (n + 1) ∧ ((z = 40 ∧ τ = fF (fR (fR (fR σ 49 (upd (σ.2.1 49) n x)) 50 (upd (σ.2.1 50) n y)) 51 (upd (σ.2.1 51) n w)) 15 (nI (n + 1))) ∨ (z < 40 ∧ τ = fF (fR (fR (fR (fR (fR σ 49 (upd (σ.2.1 49) n x)) 50 (upd (σ.2.1 50) n y)) 51 (upd (σ.2.1 51) n w)) 58 (upd (σ.2.1 58) ((j * 40) + z) (nI n))) 59 (upd (σ.2.1 59) j (nI (z + 1)))) 15 (nI (n + 1)))))) := by
  refine c_of (lv := [(0, .ref (a 10)), (1, .int (nI j)), (2, .int x), (3, .int y), (4, .int w)]) rfl (Nat.le_of_ble_eq_true rfl) rfl ?_
  intro p e s m args below meth c ls E h hr hk hl
  have hx := E.1
  have hb := E.2.1
  refine lv_aload_n hx hb dX8_add_0 rfl (lv_at hl 0 rfl) ?_
  refine r_get E h 4 (v := .int (nI n)) (eX_10 cy a σ) rfl fw_X8 (by decide) fl_X8_30 (congrArg (fun z => some (Value.int z)) hn) dX8_add_1 ?_
  refine lv_aload_n hx hb dX8_add_4 rfl (lv_at hl 0 rfl) ?_
  refine r_get E h 0 (v := .ref (a 49)) (eX_10 cy a σ) rfl fw_X8 (by decide) fl_X8_9 rfl dX8_add_5 ?_
  refine r_alen E h (eX_49 cy a σ) (v := 40) rfl dX8_add_8 ?_
  refine lv_icmp_lt (tgt := 15) hx hb dX8_add_9 (by decide) (fun c9 => ?_) (fun c9 => ?_)
  · have c9 : n < 40 := n_lt (by omega) (by decide) c9
    refine lv_aload_n hx hb dX8_add_15 rfl (lv_at hl 0 rfl) ?_
    refine r_get E h 0 (v := .ref (a 49)) (eX_10 cy a σ) rfl fw_X8 (by decide) fl_X8_9 rfl dX8_add_16 ?_
    refine lv_aload_n hx hb dX8_add_19 rfl (lv_at hl 0 rfl) ?_
    refine r_get E h 4 (v := .int (nI n)) (eX_10 cy a σ) rfl fw_X8 (by decide) fl_X8_30 (congrArg (fun z => some (Value.int z)) hn) dX8_add_20 ?_
    refine lv_iload_n hx hb dX8_add_23 rfl (lv_at hl 2 rfl) ?_
    refine r_iastN E h (f := σ.2.1 49) (eX_49 cy a σ) (j := n) c9 (by decide) (qX_49 cy a σ (upd (σ.2.1 49) n x)) dX8_add_24 (fun H locs h => ?_)
    refine lv_aload_n hx hb dX8_add_25 rfl (lv_at hl 0 rfl) ?_
    refine r_get E h 1 (v := .ref (a 50)) (eX_10 cy a (fR σ 49 (upd (σ.2.1 49) n x))) rfl fw_X8 (by decide) fl_X8_15 rfl dX8_add_26 ?_
    refine lv_aload_n hx hb dX8_add_29 rfl (lv_at hl 0 rfl) ?_
    refine r_get E h 4 (v := .int (nI n)) (eX_10 cy a (fR σ 49 (upd (σ.2.1 49) n x))) rfl fw_X8 (by decide) fl_X8_30 (congrArg (fun z => some (Value.int z)) hn) dX8_add_30 ?_
    refine lv_iload_n hx hb dX8_add_33 rfl (lv_at hl 3 rfl) ?_
    refine r_iastN E h (f := σ.2.1 50) (eX_50 cy a (fR σ 49 (upd (σ.2.1 49) n x))) (j := n) c9 (by decide) (qX_50 cy a (fR σ 49 (upd (σ.2.1 49) n x)) (upd (σ.2.1 50) n y)) dX8_add_34 (fun H locs h => ?_)
    refine lv_aload_n hx hb dX8_add_35 rfl (lv_at hl 0 rfl) ?_
    refine r_get E h 2 (v := .ref (a 51)) (eX_10 cy a (fR (fR σ 49 (upd (σ.2.1 49) n x)) 50 (upd (σ.2.1 50) n y))) rfl fw_X8 (by decide) fl_X8_18 rfl dX8_add_36 ?_
    refine lv_aload_n hx hb dX8_add_39 rfl (lv_at hl 0 rfl) ?_
    refine r_get E h 4 (v := .int (nI n)) (eX_10 cy a (fR (fR σ 49 (upd (σ.2.1 49) n x)) 50 (upd (σ.2.1 50) n y))) rfl fw_X8 (by decide) fl_X8_30 (congrArg (fun z => some (Value.int z)) hn) dX8_add_40 ?_
    refine lv_iload hx hb dX8_add_43 (lv_at hl 4 rfl) ?_
    refine r_iastN E h (f := σ.2.1 51) (eX_51 cy a (fR (fR σ 49 (upd (σ.2.1 49) n x)) 50 (upd (σ.2.1 50) n y))) (j := n) c9 (by decide) (qX_51 cy a (fR (fR σ 49 (upd (σ.2.1 49) n x)) 50 (upd (σ.2.1 50) n y)) (upd (σ.2.1 51) n w)) dX8_add_45 (fun H locs h => ?_)
    refine lv_aload_n hx hb dX8_add_46 rfl (lv_at hl 0 rfl) ?_
    refine r_get E h 3 (v := .ref (a 14)) (eX_10 cy a (fR (fR (fR σ 49 (upd (σ.2.1 49) n x)) 50 (upd (σ.2.1 50) n y)) 51 (upd (σ.2.1 51) n w))) rfl fw_X8 (by decide) fl_X8_26 rfl dX8_add_47 ?_
    refine lv_iload_n hx hb dX8_add_50 rfl (lv_at hl 1 rfl) ?_
    refine lv_aload_n hx hb dX8_add_51 rfl (lv_at hl 0 rfl) ?_
    refine r_get E h 4 (v := .int (nI n)) (eX_10 cy a (fR (fR (fR σ 49 (upd (σ.2.1 49) n x)) 50 (upd (σ.2.1 50) n y)) 51 (upd (σ.2.1 51) n w))) rfl fw_X8 (by decide) fl_X8_30 (congrArg (fun z => some (Value.int z)) hn) dX8_add_52 ?_
    refine k_v h (q_runV (As := [.int (nI j), .int (nI n)]) (rest := []) E h (c_X3_put_gR l D cy a (fR (fR (fR σ 49 (upd (σ.2.1 49) n x)) 50 (upd (σ.2.1 50) n y)) 51 (upd (σ.2.1 51) n w)) j (nI n) z hj hz hw) co_X3_put ml_X8_34 im_X3_put se_X3_put in_X3 (eX_14 cy a (fR (fR (fR σ 49 (upd (σ.2.1 49) n x)) 50 (upd (σ.2.1 50) n y)) 51 (upd (σ.2.1 51) n w))) rfl ok_X3_put rfl ⟨by decide, by decide⟩ hl.1 rfl (Nat.le_of_ble_eq_true rfl) dX8_add_55 ⟨Nat.zero_le _, Nat.zero_le _⟩) (wX_fst cy a) (fun τ55 H locs p55 h => ?_)
    have hF : τ55.1 15 = nI n := by
        rcases p55 with ⟨_, e⟩ | ⟨_, e⟩ <;> rw [e] <;> exact hn
    refine lv_aload_n hx hb dX8_add_58 rfl (lv_at hl 0 rfl) ?_
    refine lv_dup hx hb dX8_add_59 rfl ?_
    refine r_get E h 4 (v := .int (nI n)) (eX_10 cy a τ55) rfl fw_X8 (by decide) fl_X8_30 (congrArg (fun z => some (Value.int z)) hF) dX8_add_60 ?_
    refine lv_iconst (v := 1) hx hb dX8_add_63 (by decide) ?_
    refine n_add (j := n) (k := 1) hx hb dX8_add_64 ?_
    refine r_put E h 4 (ty := .int) (eX_10 cy a τ55) rfl fw_X8 tyX8_ok nmX8 (by decide) fl_X8_30 rfl (by decide +kernel) rfl rfl (Nat.le_of_ble_eq_true rfl) (sX_15 cy a τ55 (nI (n + 1))) dX8_add_65 (fun H locs h => ?_)
    refine lv_aload_n hx hb dX8_add_68 rfl (lv_at hl 0 rfl) ?_
    refine r_get E h 4 (v := .int (nI (n + 1))) (eX_10 cy a (fF τ55 15 (nI (n + 1)))) rfl fw_X8 (by decide) fl_X8_30 rfl dX8_add_69 ?_
    exact t_i E h hr hk (Or.inr ⟨c9, rfl, p55.elim (fun q => Or.inl ⟨q.1, by rw [q.2]⟩) (fun q => Or.inr ⟨q.1, by rw [q.2]; rfl⟩)⟩) dX8_add_72
  · have c9 : 40 ≤ n := n_nlt (by omega) (by decide) c9
    refine lv_bipush (v := -5) hx hb dX8_add_12 (by decide) ?_
    exact t_i E h hr hk (Or.inl ⟨by omega, rfl, rfl⟩) dX8_add_14

set_option maxHeartbeats 4000000 in
set_option maxRecDepth 100000 in
theorem c_X8_isIn_repairs (l : Launch) (D : va_G) (cy : Nat → ClassId) (a : Nat → Nat) (σ : St) (x y : Int32) (hx6 : vp_in x 40) : CI l yX8_isIn cX8_isIn 3 (some .boolean) (rmOf 1 22) D cy (wX cy a) (AX a) [.ref (a 10), .int x, .int y] σ (fun r τ => τ = σ ∧ (r = 0 ∨ r = 1)) := by
  refine c_of (lv := [(0, .ref (a 10)), (1, .int x), (2, .int y)]) rfl (Nat.le_of_ble_eq_true rfl) rfl ?_
  intro p e s m args below meth c ls E h hr hk hl
  have hx := E.1
  have hb := E.2.1
  refine lv_iload_n hx hb dX8_isIn_0 rfl (lv_at hl 2 rfl) ?_
  refine lv_aload_n hx hb dX8_isIn_1 rfl (lv_at hl 0 rfl) ?_
  refine r_get E h 1 (v := .ref (a 50)) (eX_10 cy a σ) rfl fw_X8 (by decide) fl_X8_15 rfl dX8_isIn_2 ?_
  refine lv_iload_n hx hb dX8_isIn_5 rfl (lv_at hl 1 rfl) ?_
  refine r_iald E h (f := σ.2.1 50) (eX_50 cy a σ) hx6 dX8_isIn_6 ?_
  refine lv_aload_n hx hb dX8_isIn_7 rfl (lv_at hl 0 rfl) ?_
  refine r_get E h 2 (v := .ref (a 51)) (eX_10 cy a σ) rfl fw_X8 (by decide) fl_X8_18 rfl dX8_isIn_8 ?_
  refine lv_iload_n hx hb dX8_isIn_11 rfl (lv_at hl 1 rfl) ?_
  refine r_iald E h (f := σ.2.1 51) (eX_51 cy a σ) hx6 dX8_isIn_12 ?_
  refine k_i h (q_runSN (As := [.int y, .int (σ.2.1 50 x.toNatClampNeg), .int (σ.2.1 51 x.toNatClampNeg)]) (rest := []) E h (c_X11_isWithin l D cy a σ y (σ.2.1 50 x.toNatClampNeg) (σ.2.1 51 x.toNatClampNeg)) co_X11_isWithin nl_X8_38 st_X11_isWithin in_X11 ok_X11_isWithin rfl ⟨by decide, by decide⟩ hl.1 rfl (Nat.le_of_ble_eq_true rfl) dX8_isIn_13 ⟨Nat.zero_le _, Nat.zero_le _⟩) (wX_fst cy a) (fun r13 τ13 H locs p13 h => ?_)
  rw [p13.1] at h
  exact t_z E h hr hk p13.2.z ⟨rfl, p13.2.z⟩ dX8_isIn_16

set_option maxHeartbeats 4000000 in
set_option maxRecDepth 100000 in
theorem c_X8_hasAny_repairs (l : Launch) (D : va_G) (cy : Nat → ClassId) (a : Nat → Nat) (σ : St) (j : Nat) (y : Int32) (hj : j < 12) (gg : GRP (σ.2.1 59) (σ.2.1 58) 40 40) : CI l yX8_hasAny cX8_hasAny 4 (some .boolean) (rmOf 2 44) D cy (wX cy a) (AX a) [.ref (a 10), .int (nI j), .int y] σ (fun r τ => τ = σ ∧ (r = 0 ∨ r = 1)) := by
  refine c_of (lv := [(0, .ref (a 10)), (1, .int (nI j)), (2, .int y)]) rfl (Nat.le_of_ble_eq_true rfl) rfl ?_
  intro p e s m args below meth c ls E h hr hk hl
  have hx := E.1
  have hb := E.2.1
  obtain ⟨z, hzw, hz, hm⟩ := gg j hj
  refine lv_iconst (v := 0) hx hb dX8_hasAny_0 (by decide) ?_
  refine lv_istore_n (lv' := [(3, .int 0), (0, .ref (a 10)), (1, .int (nI j)), (2, .int y)]) hx hb dX8_hasAny_1 rfl hl (by decide) rfl (fun ls hl => ?_)
  have lp2 : ∀ (f : Nat) (i : Nat) (H : Heap) (locs : List Loc) (ls : Array Slot), (i ≤ z) → (z - i) < f → HW D (AX a) s (wX cy a σ) H locs → lv_has ls 4 [(3, .int (nI i)), (0, .ref (a 10)), (1, .int (nI j)), (2, .int y)] → W p l e (rmOf 2 44) s m args below meth c H locs 0 0 (MQ below (va_Qi (fun r τ => τ = σ ∧ (r = 0 ∨ r = 1)) (fun u t => va_P D vwCl (wX cy a u) t.heap) (AX a)) args s 0 0 (AX a)) (F0 m 2 ls []) := by
    intro f
    induction f with
    | zero => intro i H locs ls _ hf; exact absurd hf (Nat.not_lt_zero _)
    | succ f ih2 =>
      intro i H locs ls hi2 hf2 h hl
      refine lv_iload_n hx hb dX8_hasAny_2 rfl (lv_at hl 0 rfl) ?_
      refine lv_aload_n hx hb dX8_hasAny_3 rfl (lv_at hl 1 rfl) ?_
      refine r_get E h 3 (v := .ref (a 14)) (eX_10 cy a σ) rfl fw_X8 (by decide) fl_X8_26 rfl dX8_hasAny_4 ?_
      refine r_get E h 2 (v := .ref (a 59)) (eX_14 cy a σ) rfl fw_X3 (by decide) fl_X8_42 rfl dX8_hasAny_7 ?_
      refine lv_iload_n hx hb dX8_hasAny_10 rfl (lv_at hl 2 rfl) ?_
      refine r_ialdN E h (f := σ.2.1 59) (eX_59 cy a σ) (j := j) hj (by decide) (v := nI z) hz dX8_hasAny_11 ?_
      refine lv_icmp_ge (tgt := 40) hx hb dX8_hasAny_12 (by decide) (fun c12 => ?_) (fun c12 => ?_)
      · refine lv_iconst (v := 0) hx hb dX8_hasAny_40 (by decide) ?_
        exact t_z E h hr hk (Or.inl rfl) ⟨rfl, Or.inl rfl⟩ dX8_hasAny_41
      · have c12 : i < z := Nat.lt_of_not_le fun q => c12 ((nI_leI (by omega) (by omega)).mpr q)
        refine lv_aload_n hx hb dX8_hasAny_15 rfl (lv_at hl 1 rfl) ?_
        refine lv_aload_n hx hb dX8_hasAny_16 rfl (lv_at hl 1 rfl) ?_
        refine r_get E h 3 (v := .ref (a 14)) (eX_10 cy a σ) rfl fw_X8 (by decide) fl_X8_26 rfl dX8_hasAny_17 ?_
        refine lv_iload_n hx hb dX8_hasAny_20 rfl (lv_at hl 2 rfl) ?_
        refine lv_iload_n hx hb dX8_hasAny_21 rfl (lv_at hl 0 rfl) ?_
        refine k_i h (q_runV (As := [.int (nI j), .int (nI i)]) (rest := [.ref (a 10)]) E h (c_X3_member_gR l D cy a σ j i hj (by omega)) co_X3_member ml_X8_45 im_X3_member se_X3_member in_X3 (eX_14 cy a σ) rfl ok_X3_member rfl ⟨by decide, by decide⟩ hl.1 rfl (Nat.le_of_ble_eq_true rfl) dX8_hasAny_22 ⟨Nat.zero_le _, Nat.zero_le _⟩) (wX_fst cy a) (fun r22 τ22 H locs p22 h => ?_)
        rw [p22.1] at h
        refine lv_iload_n hx hb dX8_hasAny_25 rfl (lv_at hl 3 rfl) ?_
        refine k_i h (q_runV (As := [.int r22, .int y]) (rest := []) E h (c_X8_isIn_repairs l D cy a σ r22 y (by rw [p22.2]; exact hm i c12)) co_X8_isIn ml_X8_49 im_X8_isIn se_X8_isIn in_X8 (eX_10 cy a σ) rfl ok_X8_isIn rfl ⟨by decide, by decide⟩ hl.1 rfl (Nat.le_of_ble_eq_true rfl) dX8_hasAny_26 ⟨Nat.zero_le _, Nat.zero_le _⟩) (wX_fst cy a) (fun r26 τ26 H locs p26 h => ?_)
        rw [p26.1] at h
        refine lv_if_eq (tgt := 34) hx hb dX8_hasAny_29 (by decide) (fun c29 => ?_) (fun c29 => ?_)
        · refine lv_iinc (v := nI (i + 1)) (lv' := [(3, .int (nI (i + 1))), (0, .ref (a 10)), (1, .int (nI j)), (2, .int y)]) hx hb dX8_hasAny_34 hl (k := 0) rfl (nI_succ i).symm (by decide) rfl (fun ls hl => ?_)
          refine lv_goto (tgt := 2) hx hb dX8_hasAny_37 (by decide) ?_
          exact ih2 (i + 1) _ _ _ (by omega) (by omega) h (lv_sub hl [0, 1, 2, 3] rfl)
        · refine lv_iconst (v := 1) hx hb dX8_hasAny_32 (by decide) ?_
          exact t_z E h hr hk (Or.inr rfl) ⟨rfl, Or.inr rfl⟩ dX8_hasAny_33
  exact lp2 _ 0 _ _ _ (Nat.zero_le _) (Nat.lt_succ_self _) h (lv_sub hl [0, 1, 2, 3] rfl)

set_option maxHeartbeats 4000000 in
set_option maxRecDepth 100000 in
theorem c_X8_take_repairs (l : Launch) (D : va_G) (cy : Nat → ClassId) (a : Nat → Nat) (σ : St) (j : Nat) (y x : Int32) (hj : j < 12) (gg : GRP (σ.2.1 59) (σ.2.1 58) 40 40) : CI l yX8_take cX8_take 7 (some .int) (rmOf 2 44) D cy (wX cy a) (AX a) [.ref (a 10), .int (nI j), .int y, .int x] σ (fun r τ => τ = σ ∧ True) := by
  refine c_of (lv := [(0, .ref (a 10)), (1, .int (nI j)), (2, .int y), (3, .int x)]) rfl (Nat.le_of_ble_eq_true rfl) rfl ?_
  intro p e s m args below meth c ls E h hr hk hl
  have hx := E.1
  have hb := E.2.1
  obtain ⟨z, hzw, hz, hm⟩ := gg j hj
  refine lv_iload_n hx hb dX8_take_0 rfl (lv_at hl 3 rfl) ?_
  refine lv_istore (lv' := [(4, .int x), (0, .ref (a 10)), (1, .int (nI j)), (2, .int y), (3, .int x)]) hx hb dX8_take_1 hl (by decide) rfl (fun ls hl => ?_)
  refine lv_iconst (v := 0) hx hb dX8_take_3 (by decide) ?_
  refine lv_istore (lv' := [(5, .int 0), (4, .int x), (0, .ref (a 10)), (1, .int (nI j)), (2, .int y), (3, .int x)]) hx hb dX8_take_4 hl (by decide) rfl (fun ls hl => ?_)
  have lp6 : ∀ (f : Nat) (i : Nat) (u : Int32) (H : Heap) (locs : List Loc) (ls : Array Slot), (i ≤ z) → (z - i) < f → HW D (AX a) s (wX cy a σ) H locs → lv_has ls 7 [(5, .int (nI i)), (4, .int u), (0, .ref (a 10)), (1, .int (nI j)), (2, .int y), (3, .int x)] → W p l e (rmOf 2 44) s m args below meth c H locs 0 0 (MQ below (va_Qi (fun r τ => τ = σ ∧ True) (fun u t => va_P D vwCl (wX cy a u) t.heap) (AX a)) args s 0 0 (AX a)) (F0 m 6 ls []) := by
    intro f
    induction f with
    | zero => intro i u H locs ls _ hf; exact absurd hf (Nat.not_lt_zero _)
    | succ f ih6 =>
      intro i u H locs ls hi6 hf6 h hl
      refine lv_iload hx hb dX8_take_6 (lv_at hl 0 rfl) ?_
      refine lv_aload_n hx hb dX8_take_8 rfl (lv_at hl 2 rfl) ?_
      refine r_get E h 3 (v := .ref (a 14)) (eX_10 cy a σ) rfl fw_X8 (by decide) fl_X8_26 rfl dX8_take_9 ?_
      refine r_get E h 2 (v := .ref (a 59)) (eX_14 cy a σ) rfl fw_X3 (by decide) fl_X8_42 rfl dX8_take_12 ?_
      refine lv_iload_n hx hb dX8_take_15 rfl (lv_at hl 3 rfl) ?_
      refine r_ialdN E h (f := σ.2.1 59) (eX_59 cy a σ) (j := j) hj (by decide) (v := nI z) hz dX8_take_16 ?_
      refine lv_icmp_ge (tgt := 65) hx hb dX8_take_17 (by decide) (fun c17 => ?_) (fun c17 => ?_)
      · refine lv_iload_n hx hb dX8_take_65 rfl (lv_at hl 5 rfl) ?_
        refine lv_iload hx hb dX8_take_66 (lv_at hl 1 rfl) ?_
        refine lv_isub hx hb dX8_take_68 ?_
        exact t_i E h hr hk ⟨rfl, trivial⟩ dX8_take_69
      · have c17 : i < z := Nat.lt_of_not_le fun q => c17 ((nI_leI (by omega) (by omega)).mpr q)
        refine lv_aload_n hx hb dX8_take_20 rfl (lv_at hl 2 rfl) ?_
        refine r_get E h 3 (v := .ref (a 14)) (eX_10 cy a σ) rfl fw_X8 (by decide) fl_X8_26 rfl dX8_take_21 ?_
        refine lv_iload_n hx hb dX8_take_24 rfl (lv_at hl 3 rfl) ?_
        refine lv_iload hx hb dX8_take_25 (lv_at hl 0 rfl) ?_
        refine k_i h (q_runV (As := [.int (nI j), .int (nI i)]) (rest := []) E h (c_X3_member_gR l D cy a σ j i hj (by omega)) co_X3_member ml_X8_45 im_X3_member se_X3_member in_X3 (eX_14 cy a σ) rfl ok_X3_member rfl ⟨by decide, by decide⟩ hl.1 rfl (Nat.le_of_ble_eq_true rfl) dX8_take_27 ⟨Nat.zero_le _, Nat.zero_le _⟩) (wX_fst cy a) (fun r27 τ27 H locs p27 h => ?_)
        rw [p27.1] at h
        refine lv_istore (lv' := [(6, .int r27), (5, .int (nI i)), (4, .int u), (0, .ref (a 10)), (1, .int (nI j)), (2, .int y), (3, .int x)]) hx hb dX8_take_30 hl (by decide) rfl (fun ls hl => ?_)
        refine lv_aload_n hx hb dX8_take_32 rfl (lv_at hl 3 rfl) ?_
        refine lv_iload hx hb dX8_take_33 (lv_at hl 0 rfl) ?_
        refine lv_iload_n hx hb dX8_take_35 rfl (lv_at hl 5 rfl) ?_
        refine k_i h (q_runV (As := [.int r27, .int y]) (rest := []) E h (c_X8_isIn_repairs l D cy a σ r27 y (by rw [p27.2]; exact hm i c17)) co_X8_isIn ml_X8_49 im_X8_isIn se_X8_isIn in_X8 (eX_10 cy a σ) rfl ok_X8_isIn rfl ⟨by decide, by decide⟩ hl.1 rfl (Nat.le_of_ble_eq_true rfl) dX8_take_36 ⟨Nat.zero_le _, Nat.zero_le _⟩) (wX_fst cy a) (fun r36 τ36 H locs p36 h => ?_)
        rw [p36.1] at h
        refine lv_if_eq (tgt := 59) hx hb dX8_take_39 (by decide) (fun c39 => ?_) (fun c39 => ?_)
        · refine lv_iinc (v := nI (i + 1)) (lv' := [(5, .int (nI (i + 1))), (6, .int r27), (4, .int u), (0, .ref (a 10)), (1, .int (nI j)), (2, .int y), (3, .int x)]) hx hb dX8_take_59 hl (k := 1) rfl (nI_succ i).symm (by decide) rfl (fun ls hl => ?_)
          refine lv_goto (tgt := 6) hx hb dX8_take_62 (by decide) ?_
          exact ih6 (i + 1) u _ _ _ (by omega) (by omega) h (lv_sub hl [0, 2, 3, 4, 5, 6] rfl)
        · refine lv_iload hx hb dX8_take_42 (lv_at hl 2 rfl) ?_
          refine lv_iload hx hb dX8_take_44 (lv_at hl 2 rfl) ?_
          refine lv_aload_n hx hb dX8_take_46 rfl (lv_at hl 3 rfl) ?_
          refine r_get E h 0 (v := .ref (a 49)) (eX_10 cy a σ) rfl fw_X8 (by decide) fl_X8_9 rfl dX8_take_47 ?_
          refine lv_iload hx hb dX8_take_50 (lv_at hl 0 rfl) ?_
          refine r_iald E h (f := σ.2.1 49) (eX_49 cy a σ) (by rw [p27.2]; exact hm i c17) dX8_take_52 ?_
          refine r_mmin E hl.1 ml_X8_53 st_J9_min_7cf53 in_J9 co_J9_min_7cf53 ⟨Nat.le_of_ble_eq_true rfl, Nat.le_of_ble_eq_true rfl⟩ ⟨Nat.zero_le _, Nat.zero_le _⟩ dX8_take_53 ?_
          refine lv_isub hx hb dX8_take_56 ?_
          refine lv_istore (lv' := [(4, .int (u - (if (σ.2.1 49 r27.toNatClampNeg) < u then (σ.2.1 49 r27.toNatClampNeg) else u))), (6, .int r27), (5, .int (nI i)), (0, .ref (a 10)), (1, .int (nI j)), (2, .int y), (3, .int x)]) hx hb dX8_take_57 hl (by decide) rfl (fun ls hl => ?_)
          refine lv_iinc (v := nI (i + 1)) (lv' := [(5, .int (nI (i + 1))), (4, .int (u - (if (σ.2.1 49 r27.toNatClampNeg) < u then (σ.2.1 49 r27.toNatClampNeg) else u))), (6, .int r27), (0, .ref (a 10)), (1, .int (nI j)), (2, .int y), (3, .int x)]) hx hb dX8_take_59 hl (k := 2) rfl (nI_succ i).symm (by decide) rfl (fun ls hl => ?_)
          refine lv_goto (tgt := 6) hx hb dX8_take_62 (by decide) ?_
          exact ih6 (i + 1) (u - (if (σ.2.1 49 r27.toNatClampNeg) < u then (σ.2.1 49 r27.toNatClampNeg) else u)) _ _ _ (by omega) (by omega) h (lv_sub hl [0, 1, 3, 4, 5, 6] rfl)
  exact lp6 _ 0 x _ _ _ (Nat.zero_le _) (Nat.lt_succ_self _) h (lv_sub hl [0, 1, 2, 3, 4, 5] rfl)

set_option maxHeartbeats 4000000 in
set_option maxRecDepth 100000 in
theorem c_X4_clear_book (l : Launch) (D : va_G) (cy : Nat → ClassId) (a : Nat → Nat) (σ : St)   : CV l yX4_clear cX4_clear 1 none (rmOf 0 0) D cy (wX cy a) (AX a) [.ref (a 3)] σ (fun τ => τ = fF σ 7 0) := by
  refine c_of (lv := [(0, .ref (a 3))]) rfl (Nat.le_of_ble_eq_true rfl) rfl ?_
  intro p e s m args below meth c ls E h hr hk hl
  have hx := E.1
  have hb := E.2.1
  refine lv_aload_n hx hb dX4_clear_0 rfl (lv_at hl 0 rfl) ?_
  refine lv_iconst (v := 0) hx hb dX4_clear_1 (by decide) ?_
  refine r_put E h 5 (ty := .int) (eX_3 cy a σ) rfl fw_X4 tyX4_ok nmX4 (by decide) fl_X4_27 rfl (by decide +kernel) rfl rfl (Nat.le_of_ble_eq_true rfl) (sX_7 cy a σ 0) dX4_clear_2 (fun H locs h => ?_)
  exact t_v E h hr hk rfl dX4_clear_5

set_option maxHeartbeats 4000000 in
set_option maxRecDepth 100000 in
theorem c_X4_add_book (l : Launch) (D : va_G) (cy : Nat → ClassId) (a : Nat → Nat) (σ : St) (x y w v : Int32) (n : Nat) (hn : σ.1 7 = nI n) (hn6 : n ≤ 30) : CV l yX4_add cX4_add 5 none (rmOf 0 0) D cy (wX cy a) (AX a) [.ref (a 3), .int x, .int y, .int w, .int v] σ (fun τ => (n = 30 ∧ τ = σ) ∨ (n < 30 ∧ τ = fF (fR (fR (fR (fR σ 19 (upd (σ.2.1 19) n x)) 20 (upd (σ.2.1 20) n y)) 21 (upd (σ.2.1 21) n w)) 22 (upd (σ.2.1 22) n v)) 7 (nI (n + 1)))) := by
  refine c_of (lv := [(0, .ref (a 3)), (1, .int x), (2, .int y), (3, .int w), (4, .int v)]) rfl (Nat.le_of_ble_eq_true rfl) rfl ?_
  intro p e s m args below meth c ls E h hr hk hl
  have hx := E.1
  have hb := E.2.1
  refine lv_aload_n hx hb dX4_add_0 rfl (lv_at hl 0 rfl) ?_
  refine r_get E h 5 (v := .int (nI n)) (eX_3 cy a σ) rfl fw_X4 (by decide) fl_X4_27 (congrArg (fun z => some (Value.int z)) hn) dX4_add_1 ?_
  refine lv_bipush (v := 30) hx hb dX4_add_4 (by decide) ?_
  refine lv_icmp_lt (tgt := 10) hx hb dX4_add_6 (by decide) (fun c6 => ?_) (fun c6 => ?_)
  · have c6 : n < 30 := n_lt (by omega) (by decide) c6
    refine lv_aload_n hx hb dX4_add_10 rfl (lv_at hl 0 rfl) ?_
    refine r_get E h 0 (v := .ref (a 19)) (eX_3 cy a σ) rfl fw_X4 (by decide) fl_X4_9 rfl dX4_add_11 ?_
    refine lv_aload_n hx hb dX4_add_14 rfl (lv_at hl 0 rfl) ?_
    refine r_get E h 5 (v := .int (nI n)) (eX_3 cy a σ) rfl fw_X4 (by decide) fl_X4_27 (congrArg (fun z => some (Value.int z)) hn) dX4_add_15 ?_
    refine lv_iload_n hx hb dX4_add_18 rfl (lv_at hl 1 rfl) ?_
    refine r_iastN E h (f := σ.2.1 19) (eX_19 cy a σ) (j := n) c6 (by decide) (qX_19 cy a σ (upd (σ.2.1 19) n x)) dX4_add_19 (fun H locs h => ?_)
    refine lv_aload_n hx hb dX4_add_20 rfl (lv_at hl 0 rfl) ?_
    refine r_get E h 1 (v := .ref (a 20)) (eX_3 cy a (fR σ 19 (upd (σ.2.1 19) n x))) rfl fw_X4 (by decide) fl_X4_15 rfl dX4_add_21 ?_
    refine lv_aload_n hx hb dX4_add_24 rfl (lv_at hl 0 rfl) ?_
    refine r_get E h 5 (v := .int (nI n)) (eX_3 cy a (fR σ 19 (upd (σ.2.1 19) n x))) rfl fw_X4 (by decide) fl_X4_27 (congrArg (fun z => some (Value.int z)) hn) dX4_add_25 ?_
    refine lv_iload_n hx hb dX4_add_28 rfl (lv_at hl 2 rfl) ?_
    refine r_iastN E h (f := σ.2.1 20) (eX_20 cy a (fR σ 19 (upd (σ.2.1 19) n x))) (j := n) c6 (by decide) (qX_20 cy a (fR σ 19 (upd (σ.2.1 19) n x)) (upd (σ.2.1 20) n y)) dX4_add_29 (fun H locs h => ?_)
    refine lv_aload_n hx hb dX4_add_30 rfl (lv_at hl 0 rfl) ?_
    refine r_get E h 2 (v := .ref (a 21)) (eX_3 cy a (fR (fR σ 19 (upd (σ.2.1 19) n x)) 20 (upd (σ.2.1 20) n y))) rfl fw_X4 (by decide) fl_X4_18 rfl dX4_add_31 ?_
    refine lv_aload_n hx hb dX4_add_34 rfl (lv_at hl 0 rfl) ?_
    refine r_get E h 5 (v := .int (nI n)) (eX_3 cy a (fR (fR σ 19 (upd (σ.2.1 19) n x)) 20 (upd (σ.2.1 20) n y))) rfl fw_X4 (by decide) fl_X4_27 (congrArg (fun z => some (Value.int z)) hn) dX4_add_35 ?_
    refine lv_iload_n hx hb dX4_add_38 rfl (lv_at hl 3 rfl) ?_
    refine r_iastN E h (f := σ.2.1 21) (eX_21 cy a (fR (fR σ 19 (upd (σ.2.1 19) n x)) 20 (upd (σ.2.1 20) n y))) (j := n) c6 (by decide) (qX_21 cy a (fR (fR σ 19 (upd (σ.2.1 19) n x)) 20 (upd (σ.2.1 20) n y)) (upd (σ.2.1 21) n w)) dX4_add_39 (fun H locs h => ?_)
    refine lv_aload_n hx hb dX4_add_40 rfl (lv_at hl 0 rfl) ?_
    refine r_get E h 3 (v := .ref (a 22)) (eX_3 cy a (fR (fR (fR σ 19 (upd (σ.2.1 19) n x)) 20 (upd (σ.2.1 20) n y)) 21 (upd (σ.2.1 21) n w))) rfl fw_X4 (by decide) fl_X4_21 rfl dX4_add_41 ?_
    refine lv_aload_n hx hb dX4_add_44 rfl (lv_at hl 0 rfl) ?_
    refine r_get E h 5 (v := .int (nI n)) (eX_3 cy a (fR (fR (fR σ 19 (upd (σ.2.1 19) n x)) 20 (upd (σ.2.1 20) n y)) 21 (upd (σ.2.1 21) n w))) rfl fw_X4 (by decide) fl_X4_27 (congrArg (fun z => some (Value.int z)) hn) dX4_add_45 ?_
    refine lv_iload hx hb dX4_add_48 (lv_at hl 4 rfl) ?_
    refine r_iastN E h (f := σ.2.1 22) (eX_22 cy a (fR (fR (fR σ 19 (upd (σ.2.1 19) n x)) 20 (upd (σ.2.1 20) n y)) 21 (upd (σ.2.1 21) n w))) (j := n) c6 (by decide) (qX_22 cy a (fR (fR (fR σ 19 (upd (σ.2.1 19) n x)) 20 (upd (σ.2.1 20) n y)) 21 (upd (σ.2.1 21) n w)) (upd (σ.2.1 22) n v)) dX4_add_50 (fun H locs h => ?_)
    refine lv_aload_n hx hb dX4_add_51 rfl (lv_at hl 0 rfl) ?_
    refine lv_dup hx hb dX4_add_52 rfl ?_
    refine r_get E h 5 (v := .int (nI n)) (eX_3 cy a (fR (fR (fR (fR σ 19 (upd (σ.2.1 19) n x)) 20 (upd (σ.2.1 20) n y)) 21 (upd (σ.2.1 21) n w)) 22 (upd (σ.2.1 22) n v))) rfl fw_X4 (by decide) fl_X4_27 (congrArg (fun z => some (Value.int z)) hn) dX4_add_53 ?_
    refine lv_iconst (v := 1) hx hb dX4_add_56 (by decide) ?_
    refine n_add (j := n) (k := 1) hx hb dX4_add_57 ?_
    refine r_put E h 5 (ty := .int) (eX_3 cy a (fR (fR (fR (fR σ 19 (upd (σ.2.1 19) n x)) 20 (upd (σ.2.1 20) n y)) 21 (upd (σ.2.1 21) n w)) 22 (upd (σ.2.1 22) n v))) rfl fw_X4 tyX4_ok nmX4 (by decide) fl_X4_27 rfl (by decide +kernel) rfl rfl (Nat.le_of_ble_eq_true rfl) (sX_7 cy a (fR (fR (fR (fR σ 19 (upd (σ.2.1 19) n x)) 20 (upd (σ.2.1 20) n y)) 21 (upd (σ.2.1 21) n w)) 22 (upd (σ.2.1 22) n v)) (nI (n + 1))) dX4_add_58 (fun H locs h => ?_)
    exact t_v E h hr hk (Or.inr ⟨c6, rfl⟩) dX4_add_61
  · have c6 : 30 ≤ n := n_nlt (by omega) (by decide) c6
    exact t_v E h hr hk (Or.inl ⟨by omega, rfl⟩) dX4_add_9

set_option maxHeartbeats 4000000 in
set_option maxRecDepth 100000 in
theorem c_X4_clear_draft (l : Launch) (D : va_G) (cy : Nat → ClassId) (a : Nat → Nat) (σ : St)   : CV l yX4_clear cX4_clear 1 none (rmOf 0 0) D cy (wX cy a) (AX a) [.ref (a 4)] σ (fun τ => τ = fF σ 8 0) := by
  refine c_of (lv := [(0, .ref (a 4))]) rfl (Nat.le_of_ble_eq_true rfl) rfl ?_
  intro p e s m args below meth c ls E h hr hk hl
  have hx := E.1
  have hb := E.2.1
  refine lv_aload_n hx hb dX4_clear_0 rfl (lv_at hl 0 rfl) ?_
  refine lv_iconst (v := 0) hx hb dX4_clear_1 (by decide) ?_
  refine r_put E h 5 (ty := .int) (eX_4 cy a σ) rfl fw_X4 tyX4_ok nmX4 (by decide) fl_X4_27 rfl (by decide +kernel) rfl rfl (Nat.le_of_ble_eq_true rfl) (sX_8 cy a σ 0) dX4_clear_2 (fun H locs h => ?_)
  exact t_v E h hr hk rfl dX4_clear_5

set_option maxHeartbeats 4000000 in
set_option maxRecDepth 100000 in
theorem c_X4_add_draft (l : Launch) (D : va_G) (cy : Nat → ClassId) (a : Nat → Nat) (σ : St) (x y w v : Int32) (n : Nat) (hn : σ.1 8 = nI n) (hn6 : n ≤ 30) : CV l yX4_add cX4_add 5 none (rmOf 0 0) D cy (wX cy a) (AX a) [.ref (a 4), .int x, .int y, .int w, .int v] σ (fun τ => (n = 30 ∧ τ = σ) ∨ (n < 30 ∧ τ = fF (fR (fR (fR (fR σ 24 (upd (σ.2.1 24) n x)) 25 (upd (σ.2.1 25) n y)) 26 (upd (σ.2.1 26) n w)) 27 (upd (σ.2.1 27) n v)) 8 (nI (n + 1)))) := by
  refine c_of (lv := [(0, .ref (a 4)), (1, .int x), (2, .int y), (3, .int w), (4, .int v)]) rfl (Nat.le_of_ble_eq_true rfl) rfl ?_
  intro p e s m args below meth c ls E h hr hk hl
  have hx := E.1
  have hb := E.2.1
  refine lv_aload_n hx hb dX4_add_0 rfl (lv_at hl 0 rfl) ?_
  refine r_get E h 5 (v := .int (nI n)) (eX_4 cy a σ) rfl fw_X4 (by decide) fl_X4_27 (congrArg (fun z => some (Value.int z)) hn) dX4_add_1 ?_
  refine lv_bipush (v := 30) hx hb dX4_add_4 (by decide) ?_
  refine lv_icmp_lt (tgt := 10) hx hb dX4_add_6 (by decide) (fun c6 => ?_) (fun c6 => ?_)
  · have c6 : n < 30 := n_lt (by omega) (by decide) c6
    refine lv_aload_n hx hb dX4_add_10 rfl (lv_at hl 0 rfl) ?_
    refine r_get E h 0 (v := .ref (a 24)) (eX_4 cy a σ) rfl fw_X4 (by decide) fl_X4_9 rfl dX4_add_11 ?_
    refine lv_aload_n hx hb dX4_add_14 rfl (lv_at hl 0 rfl) ?_
    refine r_get E h 5 (v := .int (nI n)) (eX_4 cy a σ) rfl fw_X4 (by decide) fl_X4_27 (congrArg (fun z => some (Value.int z)) hn) dX4_add_15 ?_
    refine lv_iload_n hx hb dX4_add_18 rfl (lv_at hl 1 rfl) ?_
    refine r_iastN E h (f := σ.2.1 24) (eX_24 cy a σ) (j := n) c6 (by decide) (qX_24 cy a σ (upd (σ.2.1 24) n x)) dX4_add_19 (fun H locs h => ?_)
    refine lv_aload_n hx hb dX4_add_20 rfl (lv_at hl 0 rfl) ?_
    refine r_get E h 1 (v := .ref (a 25)) (eX_4 cy a (fR σ 24 (upd (σ.2.1 24) n x))) rfl fw_X4 (by decide) fl_X4_15 rfl dX4_add_21 ?_
    refine lv_aload_n hx hb dX4_add_24 rfl (lv_at hl 0 rfl) ?_
    refine r_get E h 5 (v := .int (nI n)) (eX_4 cy a (fR σ 24 (upd (σ.2.1 24) n x))) rfl fw_X4 (by decide) fl_X4_27 (congrArg (fun z => some (Value.int z)) hn) dX4_add_25 ?_
    refine lv_iload_n hx hb dX4_add_28 rfl (lv_at hl 2 rfl) ?_
    refine r_iastN E h (f := σ.2.1 25) (eX_25 cy a (fR σ 24 (upd (σ.2.1 24) n x))) (j := n) c6 (by decide) (qX_25 cy a (fR σ 24 (upd (σ.2.1 24) n x)) (upd (σ.2.1 25) n y)) dX4_add_29 (fun H locs h => ?_)
    refine lv_aload_n hx hb dX4_add_30 rfl (lv_at hl 0 rfl) ?_
    refine r_get E h 2 (v := .ref (a 26)) (eX_4 cy a (fR (fR σ 24 (upd (σ.2.1 24) n x)) 25 (upd (σ.2.1 25) n y))) rfl fw_X4 (by decide) fl_X4_18 rfl dX4_add_31 ?_
    refine lv_aload_n hx hb dX4_add_34 rfl (lv_at hl 0 rfl) ?_
    refine r_get E h 5 (v := .int (nI n)) (eX_4 cy a (fR (fR σ 24 (upd (σ.2.1 24) n x)) 25 (upd (σ.2.1 25) n y))) rfl fw_X4 (by decide) fl_X4_27 (congrArg (fun z => some (Value.int z)) hn) dX4_add_35 ?_
    refine lv_iload_n hx hb dX4_add_38 rfl (lv_at hl 3 rfl) ?_
    refine r_iastN E h (f := σ.2.1 26) (eX_26 cy a (fR (fR σ 24 (upd (σ.2.1 24) n x)) 25 (upd (σ.2.1 25) n y))) (j := n) c6 (by decide) (qX_26 cy a (fR (fR σ 24 (upd (σ.2.1 24) n x)) 25 (upd (σ.2.1 25) n y)) (upd (σ.2.1 26) n w)) dX4_add_39 (fun H locs h => ?_)
    refine lv_aload_n hx hb dX4_add_40 rfl (lv_at hl 0 rfl) ?_
    refine r_get E h 3 (v := .ref (a 27)) (eX_4 cy a (fR (fR (fR σ 24 (upd (σ.2.1 24) n x)) 25 (upd (σ.2.1 25) n y)) 26 (upd (σ.2.1 26) n w))) rfl fw_X4 (by decide) fl_X4_21 rfl dX4_add_41 ?_
    refine lv_aload_n hx hb dX4_add_44 rfl (lv_at hl 0 rfl) ?_
    refine r_get E h 5 (v := .int (nI n)) (eX_4 cy a (fR (fR (fR σ 24 (upd (σ.2.1 24) n x)) 25 (upd (σ.2.1 25) n y)) 26 (upd (σ.2.1 26) n w))) rfl fw_X4 (by decide) fl_X4_27 (congrArg (fun z => some (Value.int z)) hn) dX4_add_45 ?_
    refine lv_iload hx hb dX4_add_48 (lv_at hl 4 rfl) ?_
    refine r_iastN E h (f := σ.2.1 27) (eX_27 cy a (fR (fR (fR σ 24 (upd (σ.2.1 24) n x)) 25 (upd (σ.2.1 25) n y)) 26 (upd (σ.2.1 26) n w))) (j := n) c6 (by decide) (qX_27 cy a (fR (fR (fR σ 24 (upd (σ.2.1 24) n x)) 25 (upd (σ.2.1 25) n y)) 26 (upd (σ.2.1 26) n w)) (upd (σ.2.1 27) n v)) dX4_add_50 (fun H locs h => ?_)
    refine lv_aload_n hx hb dX4_add_51 rfl (lv_at hl 0 rfl) ?_
    refine lv_dup hx hb dX4_add_52 rfl ?_
    refine r_get E h 5 (v := .int (nI n)) (eX_4 cy a (fR (fR (fR (fR σ 24 (upd (σ.2.1 24) n x)) 25 (upd (σ.2.1 25) n y)) 26 (upd (σ.2.1 26) n w)) 27 (upd (σ.2.1 27) n v))) rfl fw_X4 (by decide) fl_X4_27 (congrArg (fun z => some (Value.int z)) hn) dX4_add_53 ?_
    refine lv_iconst (v := 1) hx hb dX4_add_56 (by decide) ?_
    refine n_add (j := n) (k := 1) hx hb dX4_add_57 ?_
    refine r_put E h 5 (ty := .int) (eX_4 cy a (fR (fR (fR (fR σ 24 (upd (σ.2.1 24) n x)) 25 (upd (σ.2.1 25) n y)) 26 (upd (σ.2.1 26) n w)) 27 (upd (σ.2.1 27) n v))) rfl fw_X4 tyX4_ok nmX4 (by decide) fl_X4_27 rfl (by decide +kernel) rfl rfl (Nat.le_of_ble_eq_true rfl) (sX_8 cy a (fR (fR (fR (fR σ 24 (upd (σ.2.1 24) n x)) 25 (upd (σ.2.1 25) n y)) 26 (upd (σ.2.1 26) n w)) 27 (upd (σ.2.1 27) n v)) (nI (n + 1))) dX4_add_58 (fun H locs h => ?_)
    exact t_v E h hr hk (Or.inr ⟨c6, rfl⟩) dX4_add_61
  · have c6 : 30 ≤ n := n_nlt (by omega) (by decide) c6
    exact t_v E h hr hk (Or.inl ⟨by omega, rfl⟩) dX4_add_9
