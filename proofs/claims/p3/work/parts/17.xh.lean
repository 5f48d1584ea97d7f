
def rF : List Nat := 8 :: cF
def rA : List Nat := 24 :: 25 :: 26 :: 27 :: cA2
/-- the reader's token lies on the tape -/
def RD (n : Nat) (σ : St) : Prop := ∃ s t, s ≤ t ∧ t ≤ n ∧ σ.1 4 = nI s ∧ σ.1 5 = nI t

set_option maxHeartbeats 4000000 in
set_option maxRecDepth 100000 in
theorem c_X5_byteKind (l : Launch) (D : va_G) (cy : Nat → ClassId) (a : Nat → Nat) (σ : St) (x : Int32)  : CI l yX5_byteKind cX5_byteKind 1 (some .int) (rmOf 0 0) D cy (wX cy a) (AX a) [.int x] σ (fun _ τ => τ = σ ∧ True) := by
  refine c_of (lv := [(0, .int x)]) rfl (Nat.le_of_ble_eq_true rfl) rfl ?_
  intro p e s m args below meth c ls E h hr hk hl
  have hx := E.1
  have hb := E.2.1
  refine lv_iload_n hx hb dX5_byteKind_0 rfl (lv_at hl 0 rfl) ?_
  refine lv_bipush (v := 97) hx hb dX5_byteKind_1 (by decide) ?_
  refine lv_icmp_lt (tgt := 14) hx hb dX5_byteKind_3 (by decide) (fun c3 => ?_) (fun c3 => ?_)
  · refine lv_iload_n hx hb dX5_byteKind_14 rfl (lv_at hl 0 rfl) ?_
    refine lv_bipush (v := 48) hx hb dX5_byteKind_15 (by decide) ?_
    refine lv_icmp_lt (tgt := 30) hx hb dX5_byteKind_17 (by decide) (fun c17 => ?_) (fun c17 => ?_)
    · refine lv_iconst (v := 2) hx hb dX5_byteKind_30 (by decide) ?_
      exact t_i E h hr hk ⟨rfl, trivial⟩ dX5_byteKind_31
    · refine lv_iload_n hx hb dX5_byteKind_20 rfl (lv_at hl 0 rfl) ?_
      refine lv_bipush (v := 57) hx hb dX5_byteKind_21 (by decide) ?_
      refine lv_icmp_gt (tgt := 30) hx hb dX5_byteKind_23 (by decide) (fun c23 => ?_) (fun c23 => ?_)
      · refine lv_iconst (v := 2) hx hb dX5_byteKind_30 (by decide) ?_
        exact t_i E h hr hk ⟨rfl, trivial⟩ dX5_byteKind_31
      · refine lv_iconst (v := 1) hx hb dX5_byteKind_26 (by decide) ?_
        refine lv_goto (tgt := 31) hx hb dX5_byteKind_27 (by decide) ?_
        exact t_i E h hr hk ⟨rfl, trivial⟩ dX5_byteKind_31
  · refine lv_iload_n hx hb dX5_byteKind_6 rfl (lv_at hl 0 rfl) ?_
    refine lv_bipush (v := 122) hx hb dX5_byteKind_7 (by decide) ?_
    refine lv_icmp_gt (tgt := 14) hx hb dX5_byteKind_9 (by decide) (fun c9 => ?_) (fun c9 => ?_)
    · refine lv_iload_n hx hb dX5_byteKind_14 rfl (lv_at hl 0 rfl) ?_
      refine lv_bipush (v := 48) hx hb dX5_byteKind_15 (by decide) ?_
      refine lv_icmp_lt (tgt := 30) hx hb dX5_byteKind_17 (by decide) (fun c17 => ?_) (fun c17 => ?_)
      · refine lv_iconst (v := 2) hx hb dX5_byteKind_30 (by decide) ?_
        exact t_i E h hr hk ⟨rfl, trivial⟩ dX5_byteKind_31
      · refine lv_iload_n hx hb dX5_byteKind_20 rfl (lv_at hl 0 rfl) ?_
        refine lv_bipush (v := 57) hx hb dX5_byteKind_21 (by decide) ?_
        refine lv_icmp_gt (tgt := 30) hx hb dX5_byteKind_23 (by decide) (fun c23 => ?_) (fun c23 => ?_)
        · refine lv_iconst (v := 2) hx hb dX5_byteKind_30 (by decide) ?_
          exact t_i E h hr hk ⟨rfl, trivial⟩ dX5_byteKind_31
        · refine lv_iconst (v := 1) hx hb dX5_byteKind_26 (by decide) ?_
          refine lv_goto (tgt := 31) hx hb dX5_byteKind_27 (by decide) ?_
          exact t_i E h hr hk ⟨rfl, trivial⟩ dX5_byteKind_31
    · refine lv_iconst (v := 0) hx hb dX5_byteKind_12 (by decide) ?_
      exact t_i E h hr hk ⟨rfl, trivial⟩ dX5_byteKind_13

set_option maxHeartbeats 4000000 in
set_option maxRecDepth 100000 in
theorem c_X5_mostOf (l : Launch) (D : va_G) (cy : Nat → ClassId) (a : Nat → Nat) (σ : St) (x : Int32)  : CI l yX5_mostOf cX5_mostOf 1 (some .int) (rmOf 0 0) D cy (wX cy a) (AX a) [.int x] σ (fun r τ => τ = σ ∧ ((x = 5 ∧ r = 2) ∨ (¬ x = 5 ∧ r = 100000))) := by
  refine c_of (lv := [(0, .int x)]) rfl (Nat.le_of_ble_eq_true rfl) rfl ?_
  intro p e s m args below meth c ls E h hr hk hl
  have hx := E.1
  have hb := E.2.1
  refine lv_iload_n hx hb dX5_mostOf_0 rfl (lv_at hl 0 rfl) ?_
  refine lv_iconst (v := 5) hx hb dX5_mostOf_1 (by decide) ?_
  refine lv_icmp_ne (tgt := 9) hx hb dX5_mostOf_2 (by decide) (fun c2 => ?_) (fun c2 => ?_)
  · refine lv_ldc (v := 100000) hx hb E.2.2.2.1 (E.2.2.2.2.1 _ kc_X5_123) dX5_mostOf_9 ?_
    exact t_i E h hr hk ⟨rfl, Or.inr ⟨c2, rfl⟩⟩ dX5_mostOf_11
  · refine lv_iconst (v := 2) hx hb dX5_mostOf_5 (by decide) ?_
    refine lv_goto (tgt := 11) hx hb dX5_mostOf_6 (by decide) ?_
    exact t_i E h hr hk ⟨rfl, Or.inl ⟨c2, rfl⟩⟩ dX5_mostOf_11

set_option maxHeartbeats 4000000 in
set_option maxRecDepth 100000 in
theorem c_X5_isAtEnd (l : Launch) (D : va_G) (cy : Nat → ClassId) (a : Nat → Nat) (σ : St)   : CI l yX5_isAtEnd cX5_isAtEnd 1 (some .boolean) (rmOf 0 0) D cy (wX cy a) (AX a) [.ref (a 2)] σ (fun r τ => τ = σ ∧ (r = 0 ∨ r = 1)) := by
  refine c_of (lv := [(0, .ref (a 2))]) rfl (Nat.le_of_ble_eq_true rfl) rfl ?_
  intro p e s m args below meth c ls E h hr hk hl
  have hx := E.1
  have hb := E.2.1
  refine lv_aload_n hx hb dX5_isAtEnd_0 rfl (lv_at hl 0 rfl) ?_
  refine r_get E h 2 (v := .int (σ.1 4)) (eX_2 cy a σ) rfl fw_X5 (by decide) fl_X5_50 rfl dX5_isAtEnd_1 ?_
  refine lv_aload_n hx hb dX5_isAtEnd_4 rfl (lv_at hl 0 rfl) ?_
  refine r_get E h 0 (v := .ref (a 1)) (eX_2 cy a σ) rfl fw_X5 (by decide) fl_X5_22 rfl dX5_isAtEnd_5 ?_
  refine r_get E h 1 (v := .int (σ.1 3)) (eX_1 cy a σ) rfl fw_X10 (by decide) fl_X5_39 rfl dX5_isAtEnd_8 ?_
  refine lv_icmp_lt (tgt := 18) hx hb dX5_isAtEnd_11 (by decide) (fun c11 => ?_) (fun c11 => ?_)
  · refine lv_iconst (v := 0) hx hb dX5_isAtEnd_18 (by decide) ?_
    exact t_z E h hr hk (Or.inl rfl) ⟨rfl, Or.inl rfl⟩ dX5_isAtEnd_19
  · refine lv_iconst (v := 1) hx hb dX5_isAtEnd_14 (by decide) ?_
    refine lv_goto (tgt := 19) hx hb dX5_isAtEnd_15 (by decide) ?_
    exact t_z E h hr hk (Or.inr rfl) ⟨rfl, Or.inr rfl⟩ dX5_isAtEnd_19

set_option maxHeartbeats 4000000 in
set_option maxRecDepth 100000 in
theorem c_X5_cannotGoOn (l : Launch) (D : va_G) (cy : Nat → ClassId) (a : Nat → Nat) (σ : St)   : CI l yX5_cannotGoOn cX5_cannotGoOn 1 (some .boolean) (rmOf 0 0) D cy (wX cy a) (AX a) [.ref (a 2)] σ (fun r τ => r = 0 ∧ τ = fF σ 6 (σ.1 4)) := by
  refine c_of (lv := [(0, .ref (a 2))]) rfl (Nat.le_of_ble_eq_true rfl) rfl ?_
  intro p e s m args below meth c ls E h hr hk hl
  have hx := E.1
  have hb := E.2.1
  refine lv_aload_n hx hb dX5_cannotGoOn_0 rfl (lv_at hl 0 rfl) ?_
  refine lv_aload_n hx hb dX5_cannotGoOn_1 rfl (lv_at hl 0 rfl) ?_
  refine r_get E h 2 (v := .int (σ.1 4)) (eX_2 cy a σ) rfl fw_X5 (by decide) fl_X5_50 rfl dX5_cannotGoOn_2 ?_
  refine r_put E h 4 (ty := .int) (eX_2 cy a σ) rfl fw_X5 tyX5_ok nmX5 (by decide) fl_X5_18 rfl (by decide +kernel) rfl rfl (Nat.le_of_ble_eq_true rfl) (sX_6 cy a σ (σ.1 4)) dX5_cannotGoOn_5 (fun H locs h => ?_)
  refine lv_iconst (v := 0) hx hb dX5_cannotGoOn_8 (by decide) ?_
  exact t_z E h hr hk (Or.inl rfl) ⟨rfl, rfl⟩ dX5_cannotGoOn_9

set_option maxHeartbeats 4000000 in
set_option maxRecDepth 100000 in
theorem c_X5_step (l : Launch) (D : va_G) (cy : Nat → ClassId) (a : Nat → Nat) (σ : St) (n t0 : Nat) (hn : σ.1 3 = nI n) (hn4 : n ≤ 400) (ht : σ.1 5 = nI t0) (ht0 : t0 ≤ n) : CV l yX5_step cX5_step 3 none (rmOf 1 21) D cy (wX cy a) (AX a) [.ref (a 2)] σ (fun τ => K rF rA σ τ ∧ RD n τ) := by
  refine c_of (lv := [(0, .ref (a 2))]) rfl (Nat.le_of_ble_eq_true rfl) rfl ?_
  intro p e s m args below meth c ls E h hr hk hl
  have hx := E.1
  have hb := E.2.1
  refine lv_aload_n hx hb dX5_step_0 rfl (lv_at hl 0 rfl) ?_
  refine r_get E h 3 (v := .int (nI t0)) (eX_2 cy a σ) rfl fw_X5 (by decide) fl_X5_29 (congrArg (fun z => some (Value.int z)) ht) dX5_step_1 ?_
  refine lv_istore_n (lv' := [(1, .int (nI t0)), (0, .ref (a 2))]) hx hb dX5_step_4 rfl hl (by decide) rfl (fun ls hl => ?_)
  have lp5 : ∀ (f : Nat) (k : Nat) (H : Heap) (locs : List Loc) (ls : Array Slot), (k ≤ n) → (n - k) < f → HW D (AX a) s (wX cy a σ) H locs → lv_has ls 3 [(1, .int (nI k)), (0, .ref (a 2))] → W p l e (rmOf 1 21) s m args below meth c H locs 0 0 (MQ below (va_Qv (fun τ => K rF rA σ τ ∧ RD n τ) (fun u t => va_P D vwCl (wX cy a u) t.heap) (AX a)) args s 0 0 (AX a)) (F0 m 5 ls []) := by
    intro f
    induction f with
    | zero => intro k H locs ls _ hf; exact absurd hf (Nat.not_lt_zero _)
    | succ f ih5 =>
      intro k H locs ls hi5 hf5 h hl
      refine lv_iload_n hx hb dX5_step_5 rfl (lv_at hl 0 rfl) ?_
      refine lv_aload_n hx hb dX5_step_6 rfl (lv_at hl 1 rfl) ?_
      refine r_get E h 0 (v := .ref (a 1)) (eX_2 cy a σ) rfl fw_X5 (by decide) fl_X5_22 rfl dX5_step_7 ?_
      refine r_get E h 1 (v := .int (nI n)) (eX_1 cy a σ) rfl fw_X10 (by decide) fl_X5_39 (congrArg (fun z => some (Value.int z)) hn) dX5_step_10 ?_
      refine lv_icmp_ge (tgt := 35) hx hb dX5_step_13 (by decide) (fun c13 => ?_) (fun c13 => ?_)
      · refine lv_aload_n hx hb dX5_step_35 rfl (lv_at hl 1 rfl) ?_
        refine lv_iload_n hx hb dX5_step_36 rfl (lv_at hl 0 rfl) ?_
        refine r_put E h 2 (ty := .int) (eX_2 cy a σ) rfl fw_X5 tyX5_ok nmX5 (by decide) fl_X5_50 rfl (by decide +kernel) rfl rfl (Nat.le_of_ble_eq_true rfl) (sX_4 cy a σ (nI k)) dX5_step_37 (fun H locs h => ?_)
        refine lv_aload_n hx hb dX5_step_40 rfl (lv_at hl 1 rfl) ?_
        refine r_get E h 0 (v := .ref (a 1)) (eX_2 cy a (fF σ 4 (nI k))) rfl fw_X5 (by decide) fl_X5_22 rfl dX5_step_41 ?_
        refine lv_iload_n hx hb dX5_step_44 rfl (lv_at hl 0 rfl) ?_
        refine k_i h (q_runV (As := [.int (nI k)]) (rest := []) E h (c_X10_byteAt l D cy a (fF σ 4 (nI k)) (nI k) n hn hn4) co_X10_byteAt ml_X5_53 im_X10_byteAt se_X10_byteAt in_X10 (eX_1 cy a (fF σ 4 (nI k))) rfl ok_X10_byteAt rfl ⟨by decide, by decide⟩ hl.1 rfl (Nat.le_of_ble_eq_true rfl) dX5_step_45 ⟨Nat.zero_le _, Nat.zero_le _⟩) (wX_fst cy a) (fun r45 τ45 H locs p45 h => ?_)
        rw [p45.1] at h
        refine k_i h (q_runS (As := [.int r45]) (rest := []) E h (c_X5_byteKind l D cy a (fF σ 4 (nI k)) r45) co_X5_byteKind ml_X5_110 st_X5_byteKind in_X5 rfl ok_X5_byteKind rfl ⟨by decide, by decide⟩ hl.1 rfl (Nat.le_of_ble_eq_true rfl) dX5_step_48 ⟨Nat.zero_le _, Nat.zero_le _⟩) (wX_fst cy a) (fun r48 τ48 H locs p48 h => ?_)
        rw [p48.1] at h
        refine lv_istore_n (lv' := [(2, .int r48), (1, .int (nI k)), (0, .ref (a 2))]) hx hb dX5_step_51 rfl hl (by decide) rfl (fun ls hl => ?_)
        refine lv_iload_n hx hb dX5_step_52 rfl (lv_at hl 1 rfl) ?_
        refine lv_aload_n hx hb dX5_step_53 rfl (lv_at hl 2 rfl) ?_
        refine r_get E h 0 (v := .ref (a 1)) (eX_2 cy a (fF σ 4 (nI k))) rfl fw_X5 (by decide) fl_X5_22 rfl dX5_step_54 ?_
        refine r_get E h 1 (v := .int (nI n)) (eX_1 cy a (fF σ 4 (nI k))) rfl fw_X10 (by decide) fl_X5_39 (congrArg (fun z => some (Value.int z)) hn) dX5_step_57 ?_
        refine lv_icmp_ge (tgt := 66) hx hb dX5_step_60 (by decide) (fun c60 => ?_) (fun c60 => ?_)
        · have c60 : n ≤ k := (nI_leI (a := n) (b := k) (by omega) (by omega)).mp c60
          have lp66 : ∀ (f : Nat) (q : Nat) (H : Heap) (locs : List Loc) (ls : Array Slot), (k ≤ q ∧ q ≤ n) → (n - q) < f → HW D (AX a) s (wX cy a (fF σ 4 (nI k))) H locs → lv_has ls 3 [(2, .int r48), (1, .int (nI q)), (0, .ref (a 2))] → W p l e (rmOf 1 21) s m args below meth c H locs 0 0 (MQ below (va_Qv (fun τ => K rF rA σ τ ∧ RD n τ) (fun u t => va_P D vwCl (wX cy a u) t.heap) (AX a)) args s 0 0 (AX a)) (F0 m 66 ls []) := by
            intro f
            induction f with
            | zero => intro q H locs ls _ hf; exact absurd hf (Nat.not_lt_zero _)
            | succ f ih66 =>
              intro q H locs ls hi66 hf66 h hl
              refine lv_iload_n hx hb dX5_step_66 rfl (lv_at hl 0 rfl) ?_
              refine lv_iconst (v := 2) hx hb dX5_step_67 (by decide) ?_
              refine lv_icmp_eq (tgt := 103) hx hb dX5_step_68 (by decide) (fun c68 => ?_) (fun c68 => ?_)
              · refine lv_aload_n hx hb dX5_step_103 rfl (lv_at hl 2 rfl) ?_
                refine lv_iload_n hx hb dX5_step_104 rfl (lv_at hl 1 rfl) ?_
                refine r_put E h 3 (ty := .int) (eX_2 cy a (fF σ 4 (nI k))) rfl fw_X5 tyX5_ok nmX5 (by decide) fl_X5_29 rfl (by decide +kernel) rfl rfl (Nat.le_of_ble_eq_true rfl) (sX_5 cy a (fF σ 4 (nI k)) (nI q)) dX5_step_105 (fun H locs h => ?_)
                exact t_v E h hr hk ⟨(K.rf.F 4 _ (by decide)).F 5 _ (by decide), k, q, hi66.1, hi66.2, rfl, rfl⟩ dX5_step_108
              · refine lv_iload_n hx hb dX5_step_71 rfl (lv_at hl 1 rfl) ?_
                refine lv_aload_n hx hb dX5_step_72 rfl (lv_at hl 2 rfl) ?_
                refine r_get E h 0 (v := .ref (a 1)) (eX_2 cy a (fF σ 4 (nI k))) rfl fw_X5 (by decide) fl_X5_22 rfl dX5_step_73 ?_
                refine r_get E h 1 (v := .int (nI n)) (eX_1 cy a (fF σ 4 (nI k))) rfl fw_X10 (by decide) fl_X5_39 (congrArg (fun z => some (Value.int z)) hn) dX5_step_76 ?_
                refine lv_icmp_ge (tgt := 103) hx hb dX5_step_79 (by decide) (fun c79 => ?_) (fun c79 => ?_)
                · refine lv_aload_n hx hb dX5_step_103 rfl (lv_at hl 2 rfl) ?_
                  refine lv_iload_n hx hb dX5_step_104 rfl (lv_at hl 1 rfl) ?_
                  refine r_put E h 3 (ty := .int) (eX_2 cy a (fF σ 4 (nI k))) rfl fw_X5 tyX5_ok nmX5 (by decide) fl_X5_29 rfl (by decide +kernel) rfl rfl (Nat.le_of_ble_eq_true rfl) (sX_5 cy a (fF σ 4 (nI k)) (nI q)) dX5_step_105 (fun H locs h => ?_)
                  exact t_v E h hr hk ⟨(K.rf.F 4 _ (by decide)).F 5 _ (by decide), k, q, hi66.1, hi66.2, rfl, rfl⟩ dX5_step_108
                · have c79 : q < n := Nat.lt_of_not_le fun q9 => c79 ((nI_leI (a := n) (b := q) (by omega) (by omega)).mpr q9)
                  refine lv_aload_n hx hb dX5_step_82 rfl (lv_at hl 2 rfl) ?_
                  refine r_get E h 0 (v := .ref (a 1)) (eX_2 cy a (fF σ 4 (nI k))) rfl fw_X5 (by decide) fl_X5_22 rfl dX5_step_83 ?_
                  refine lv_iload_n hx hb dX5_step_86 rfl (lv_at hl 1 rfl) ?_
                  refine k_i h (q_runV (As := [.int (nI q)]) (rest := []) E h (c_X10_byteAt l D cy a (fF σ 4 (nI k)) (nI q) n hn hn4) co_X10_byteAt ml_X5_53 im_X10_byteAt se_X10_byteAt in_X10 (eX_1 cy a (fF σ 4 (nI k))) rfl ok_X10_byteAt rfl ⟨by decide, by decide⟩ hl.1 rfl (Nat.le_of_ble_eq_true rfl) dX5_step_87 ⟨Nat.zero_le _, Nat.zero_le _⟩) (wX_fst cy a) (fun r87 τ87 H locs p87 h => ?_)
                  rw [p87.1] at h
                  refine k_i h (q_runS (As := [.int r87]) (rest := []) E h (c_X5_byteKind l D cy a (fF σ 4 (nI k)) r87) co_X5_byteKind ml_X5_110 st_X5_byteKind in_X5 rfl ok_X5_byteKind rfl ⟨by decide, by decide⟩ hl.1 rfl (Nat.le_of_ble_eq_true rfl) dX5_step_90 ⟨Nat.zero_le _, Nat.zero_le _⟩) (wX_fst cy a) (fun r90 τ90 H locs p90 h => ?_)
                  rw [p90.1] at h
                  refine lv_iload_n hx hb dX5_step_93 rfl (lv_at hl 0 rfl) ?_
                  refine lv_icmp_ne (tgt := 103) hx hb dX5_step_94 (by decide) (fun c94 => ?_) (fun c94 => ?_)
                  · refine lv_aload_n hx hb dX5_step_103 rfl (lv_at hl 2 rfl) ?_
                    refine lv_iload_n hx hb dX5_step_104 rfl (lv_at hl 1 rfl) ?_
                    refine r_put E h 3 (ty := .int) (eX_2 cy a (fF σ 4 (nI k))) rfl fw_X5 tyX5_ok nmX5 (by decide) fl_X5_29 rfl (by decide +kernel) rfl rfl (Nat.le_of_ble_eq_true rfl) (sX_5 cy a (fF σ 4 (nI k)) (nI q)) dX5_step_105 (fun H locs h => ?_)
                    exact t_v E h hr hk ⟨(K.rf.F 4 _ (by decide)).F 5 _ (by decide), k, q, hi66.1, hi66.2, rfl, rfl⟩ dX5_step_108
                  · refine lv_iinc (v := nI (q + 1)) (lv' := [(1, .int (nI (q + 1))), (2, .int r48), (0, .ref (a 2))]) hx hb dX5_step_97 hl (k := 1) rfl (nI_succ q).symm (by decide) rfl (fun ls hl => ?_)
                    refine lv_goto (tgt := 66) hx hb dX5_step_100 (by decide) ?_
                    exact ih66 (q + 1) _ _ _ ⟨by omega, by omega⟩ (by omega) h (lv_sub hl [1, 0, 2] rfl)
          exact lp66 _ k _ _ _ ⟨by omega, by omega⟩ (Nat.lt_succ_self _) h (lv_sub hl [0, 1, 2] rfl)
        · have c60 : k < n := Nat.lt_of_not_le fun q9 => c60 ((nI_leI (a := n) (b := k) (by omega) (by omega)).mpr q9)
          refine lv_iinc (v := nI (k + 1)) (lv' := [(1, .int (nI (k + 1))), (2, .int r48), (0, .ref (a 2))]) hx hb dX5_step_63 hl (k := 1) rfl (nI_succ k).symm (by decide) rfl (fun ls hl => ?_)
          have lp66 : ∀ (f : Nat) (q : Nat) (H : Heap) (locs : List Loc) (ls : Array Slot), (k ≤ q ∧ q ≤ n) → (n - q) < f → HW D (AX a) s (wX cy a (fF σ 4 (nI k))) H locs → lv_has ls 3 [(1, .int (nI q)), (2, .int r48), (0, .ref (a 2))] → W p l e (rmOf 1 21) s m args below meth c H locs 0 0 (MQ below (va_Qv (fun τ => K rF rA σ τ ∧ RD n τ) (fun u t => va_P D vwCl (wX cy a u) t.heap) (AX a)) args s 0 0 (AX a)) (F0 m 66 ls []) := by
            intro f
            induction f with
            | zero => intro q H locs ls _ hf; exact absurd hf (Nat.not_lt_zero _)
            | succ f ih66 =>
              intro q H locs ls hi66 hf66 h hl
              refine lv_iload_n hx hb dX5_step_66 rfl (lv_at hl 1 rfl) ?_
              refine lv_iconst (v := 2) hx hb dX5_step_67 (by decide) ?_
              refine lv_icmp_eq (tgt := 103) hx hb dX5_step_68 (by decide) (fun c68 => ?_) (fun c68 => ?_)
              · refine lv_aload_n hx hb dX5_step_103 rfl (lv_at hl 2 rfl) ?_
                refine lv_iload_n hx hb dX5_step_104 rfl (lv_at hl 0 rfl) ?_
                refine r_put E h 3 (ty := .int) (eX_2 cy a (fF σ 4 (nI k))) rfl fw_X5 tyX5_ok nmX5 (by decide) fl_X5_29 rfl (by decide +kernel) rfl rfl (Nat.le_of_ble_eq_true rfl) (sX_5 cy a (fF σ 4 (nI k)) (nI q)) dX5_step_105 (fun H locs h => ?_)
                exact t_v E h hr hk ⟨(K.rf.F 4 _ (by decide)).F 5 _ (by decide), k, q, hi66.1, hi66.2, rfl, rfl⟩ dX5_step_108
              · refine lv_iload_n hx hb dX5_step_71 rfl (lv_at hl 0 rfl) ?_
                refine lv_aload_n hx hb dX5_step_72 rfl (lv_at hl 2 rfl) ?_
                refine r_get E h 0 (v := .ref (a 1)) (eX_2 cy a (fF σ 4 (nI k))) rfl fw_X5 (by decide) fl_X5_22 rfl dX5_step_73 ?_
                refine r_get E h 1 (v := .int (nI n)) (eX_1 cy a (fF σ 4 (nI k))) rfl fw_X10 (by decide) fl_X5_39 (congrArg (fun z => some (Value.int z)) hn) dX5_step_76 ?_
                refine lv_icmp_ge (tgt := 103) hx hb dX5_step_79 (by decide) (fun c79 => ?_) (fun c79 => ?_)
                · refine lv_aload_n hx hb dX5_step_103 rfl (lv_at hl 2 rfl) ?_
                  refine lv_iload_n hx hb dX5_step_104 rfl (lv_at hl 0 rfl) ?_
                  refine r_put E h 3 (ty := .int) (eX_2 cy a (fF σ 4 (nI k))) rfl fw_X5 tyX5_ok nmX5 (by decide) fl_X5_29 rfl (by decide +kernel) rfl rfl (Nat.le_of_ble_eq_true rfl) (sX_5 cy a (fF σ 4 (nI k)) (nI q)) dX5_step_105 (fun H locs h => ?_)
                  exact t_v E h hr hk ⟨(K.rf.F 4 _ (by decide)).F 5 _ (by decide), k, q, hi66.1, hi66.2, rfl, rfl⟩ dX5_step_108
                · have c79 : q < n := Nat.lt_of_not_le fun q9 => c79 ((nI_leI (a := n) (b := q) (by omega) (by omega)).mpr q9)
                  refine lv_aload_n hx hb dX5_step_82 rfl (lv_at hl 2 rfl) ?_
                  refine r_get E h 0 (v := .ref (a 1)) (eX_2 cy a (fF σ 4 (nI k))) rfl fw_X5 (by decide) fl_X5_22 rfl dX5_step_83 ?_
                  refine lv_iload_n hx hb dX5_step_86 rfl (lv_at hl 0 rfl) ?_
                  refine k_i h (q_runV (As := [.int (nI q)]) (rest := []) E h (c_X10_byteAt l D cy a (fF σ 4 (nI k)) (nI q) n hn hn4) co_X10_byteAt ml_X5_53 im_X10_byteAt se_X10_byteAt in_X10 (eX_1 cy a (fF σ 4 (nI k))) rfl ok_X10_byteAt rfl ⟨by decide, by decide⟩ hl.1 rfl (Nat.le_of_ble_eq_true rfl) dX5_step_87 ⟨Nat.zero_le _, Nat.zero_le _⟩) (wX_fst cy a) (fun r87 τ87 H locs p87 h => ?_)
                  rw [p87.1] at h
                  refine k_i h (q_runS (As := [.int r87]) (rest := []) E h (c_X5_byteKind l D cy a (fF σ 4 (nI k)) r87) co_X5_byteKind ml_X5_110 st_X5_byteKind in_X5 rfl ok_X5_byteKind rfl ⟨by decide, by decide⟩ hl.1 rfl (Nat.le_of_ble_eq_true rfl) dX5_step_90 ⟨Nat.zero_le _, Nat.zero_le _⟩) (wX_fst cy a) (fun r90 τ90 H locs p90 h => ?_)
                  rw [p90.1] at h
                  refine lv_iload_n hx hb dX5_step_93 rfl (lv_at hl 1 rfl) ?_
                  refine lv_icmp_ne (tgt := 103) hx hb dX5_step_94 (by decide) (fun c94 => ?_) (fun c94 => ?_)
                  · refine lv_aload_n hx hb dX5_step_103 rfl (lv_at hl 2 rfl) ?_
                    refine lv_iload_n hx hb dX5_step_104 rfl (lv_at hl 0 rfl) ?_
                    refine r_put E h 3 (ty := .int) (eX_2 cy a (fF σ 4 (nI k))) rfl fw_X5 tyX5_ok nmX5 (by decide) fl_X5_29 rfl (by decide +kernel) rfl rfl (Nat.le_of_ble_eq_true rfl) (sX_5 cy a (fF σ 4 (nI k)) (nI q)) dX5_step_105 (fun H locs h => ?_)
                    exact t_v E h hr hk ⟨(K.rf.F 4 _ (by decide)).F 5 _ (by decide), k, q, hi66.1, hi66.2, rfl, rfl⟩ dX5_step_108
                  · refine lv_iinc (v := nI (q + 1)) (lv' := [(1, .int (nI (q + 1))), (2, .int r48), (0, .ref (a 2))]) hx hb dX5_step_97 hl (k := 0) rfl (nI_succ q).symm (by decide) rfl (fun ls hl => ?_)
                    refine lv_goto (tgt := 66) hx hb dX5_step_100 (by decide) ?_
                    exact ih66 (q + 1) _ _ _ ⟨by omega, by omega⟩ (by omega) h (lv_sub hl [0, 1, 2] rfl)
          exact lp66 _ (k + 1) _ _ _ ⟨by omega, by omega⟩ (Nat.lt_succ_self _) h (lv_sub hl [0, 1, 2] rfl)
      · have c13 : k < n := Nat.lt_of_not_le fun q9 => c13 ((nI_leI (a := n) (b := k) (by omega) (by omega)).mpr q9)
        refine lv_aload_n hx hb dX5_step_16 rfl (lv_at hl 1 rfl) ?_
        refine r_get E h 0 (v := .ref (a 1)) (eX_2 cy a σ) rfl fw_X5 (by decide) fl_X5_22 rfl dX5_step_17 ?_
        refine lv_iload_n hx hb dX5_step_20 rfl (lv_at hl 0 rfl) ?_
        refine k_i h (q_runV (As := [.int (nI k)]) (rest := []) E h (c_X10_byteAt l D cy a σ (nI k) n hn hn4) co_X10_byteAt ml_X5_53 im_X10_byteAt se_X10_byteAt in_X10 (eX_1 cy a σ) rfl ok_X10_byteAt rfl ⟨by decide, by decide⟩ hl.1 rfl (Nat.le_of_ble_eq_true rfl) dX5_step_21 ⟨Nat.zero_le _, Nat.zero_le _⟩) (wX_fst cy a) (fun r21 τ21 H locs p21 h => ?_)
        rw [p21.1] at h
        refine lv_bipush (v := 32) hx hb dX5_step_24 (by decide) ?_
        refine lv_icmp_ne (tgt := 35) hx hb dX5_step_26 (by decide) (fun c26 => ?_) (fun c26 => ?_)
        · refine lv_aload_n hx hb dX5_step_35 rfl (lv_at hl 1 rfl) ?_
          refine lv_iload_n hx hb dX5_step_36 rfl (lv_at hl 0 rfl) ?_
          refine r_put E h 2 (ty := .int) (eX_2 cy a σ) rfl fw_X5 tyX5_ok nmX5 (by decide) fl_X5_50 rfl (by decide +kernel) rfl rfl (Nat.le_of_ble_eq_true rfl) (sX_4 cy a σ (nI k)) dX5_step_37 (fun H locs h => ?_)
          refine lv_aload_n hx hb dX5_step_40 rfl (lv_at hl 1 rfl) ?_
          refine r_get E h 0 (v := .ref (a 1)) (eX_2 cy a (fF σ 4 (nI k))) rfl fw_X5 (by decide) fl_X5_22 rfl dX5_step_41 ?_
          refine lv_iload_n hx hb dX5_step_44 rfl (lv_at hl 0 rfl) ?_
          refine k_i h (q_runV (As := [.int (nI k)]) (rest := []) E h (c_X10_byteAt l D cy a (fF σ 4 (nI k)) (nI k) n hn hn4) co_X10_byteAt ml_X5_53 im_X10_byteAt se_X10_byteAt in_X10 (eX_1 cy a (fF σ 4 (nI k))) rfl ok_X10_byteAt rfl ⟨by decide, by decide⟩ hl.1 rfl (Nat.le_of_ble_eq_true rfl) dX5_step_45 ⟨Nat.zero_le _, Nat.zero_le _⟩) (wX_fst cy a) (fun r45 τ45 H locs p45 h => ?_)
          rw [p45.1] at h
          refine k_i h (q_runS (As := [.int r45]) (rest := []) E h (c_X5_byteKind l D cy a (fF σ 4 (nI k)) r45) co_X5_byteKind ml_X5_110 st_X5_byteKind in_X5 rfl ok_X5_byteKind rfl ⟨by decide, by decide⟩ hl.1 rfl (Nat.le_of_ble_eq_true rfl) dX5_step_48 ⟨Nat.zero_le _, Nat.zero_le _⟩) (wX_fst cy a) (fun r48 τ48 H locs p48 h => ?_)
          rw [p48.1] at h
          refine lv_istore_n (lv' := [(2, .int r48), (1, .int (nI k)), (0, .ref (a 2))]) hx hb dX5_step_51 rfl hl (by decide) rfl (fun ls hl => ?_)
          refine lv_iload_n hx hb dX5_step_52 rfl (lv_at hl 1 rfl) ?_
          refine lv_aload_n hx hb dX5_step_53 rfl (lv_at hl 2 rfl) ?_
          refine r_get E h 0 (v := .ref (a 1)) (eX_2 cy a (fF σ 4 (nI k))) rfl fw_X5 (by decide) fl_X5_22 rfl dX5_step_54 ?_
          refine r_get E h 1 (v := .int (nI n)) (eX_1 cy a (fF σ 4 (nI k))) rfl fw_X10 (by decide) fl_X5_39 (congrArg (fun z => some (Value.int z)) hn) dX5_step_57 ?_
          refine lv_icmp_ge (tgt := 66) hx hb dX5_step_60 (by decide) (fun c60 => ?_) (fun c60 => ?_)
          · have c60 : n ≤ k := (nI_leI (a := n) (b := k) (by omega) (by omega)).mp c60
            have lp66 : ∀ (f : Nat) (q : Nat) (H : Heap) (locs : List Loc) (ls : Array Slot), (k ≤ q ∧ q ≤ n) → (n - q) < f → HW D (AX a) s (wX cy a (fF σ 4 (nI k))) H locs → lv_has ls 3 [(2, .int r48), (1, .int (nI q)), (0, .ref (a 2))] → W p l e (rmOf 1 21) s m args below meth c H locs 0 0 (MQ below (va_Qv (fun τ => K rF rA σ τ ∧ RD n τ) (fun u t => va_P D vwCl (wX cy a u) t.heap) (AX a)) args s 0 0 (AX a)) (F0 m 66 ls []) := by
              intro f
              induction f with
              | zero => intro q H locs ls _ hf; exact absurd hf (Nat.not_lt_zero _)
              | succ f ih66 =>
                intro q H locs ls hi66 hf66 h hl
                refine lv_iload_n hx hb dX5_step_66 rfl (lv_at hl 0 rfl) ?_
                refine lv_iconst (v := 2) hx hb dX5_step_67 (by decide) ?_
                refine lv_icmp_eq (tgt := 103) hx hb dX5_step_68 (by decide) (fun c68 => ?_) (fun c68 => ?_)
                · refine lv_aload_n hx hb dX5_step_103 rfl (lv_at hl 2 rfl) ?_
                  refine lv_iload_n hx hb dX5_step_104 rfl (lv_at hl 1 rfl) ?_
                  refine r_put E h 3 (ty := .int) (eX_2 cy a (fF σ 4 (nI k))) rfl fw_X5 tyX5_ok nmX5 (by decide) fl_X5_29 rfl (by decide +kernel) rfl rfl (Nat.le_of_ble_eq_true rfl) (sX_5 cy a (fF σ 4 (nI k)) (nI q)) dX5_step_105 (fun H locs h => ?_)
                  exact t_v E h hr hk ⟨(K.rf.F 4 _ (by decide)).F 5 _ (by decide), k, q, hi66.1, hi66.2, rfl, rfl⟩ dX5_step_108
                · refine lv_iload_n hx hb dX5_step_71 rfl (lv_at hl 1 rfl) ?_
                  refine lv_aload_n hx hb dX5_step_72 rfl (lv_at hl 2 rfl) ?_
                  refine r_get E h 0 (v := .ref (a 1)) (eX_2 cy a (fF σ 4 (nI k))) rfl fw_X5 (by decide) fl_X5_22 rfl dX5_step_73 ?_
                  refine r_get E h 1 (v := .int (nI n)) (eX_1 cy a (fF σ 4 (nI k))) rfl fw_X10 (by decide) fl_X5_39 (congrArg (fun z => some (Value.int z)) hn) dX5_step_76 ?_
                  refine lv_icmp_ge (tgt := 103) hx hb dX5_step_79 (by decide) (fun c79 => ?_) (fun c79 => ?_)
                  · refine lv_aload_n hx hb dX5_step_103 rfl (lv_at hl 2 rfl) ?_
                    refine lv_iload_n hx hb dX5_step_104 rfl (lv_at hl 1 rfl) ?_
                    refine r_put E h 3 (ty := .int) (eX_2 cy a (fF σ 4 (nI k))) rfl fw_X5 tyX5_ok nmX5 (by decide) fl_X5_29 rfl (by decide +kernel) rfl rfl (Nat.le_of_ble_eq_true rfl) (sX_5 cy a (fF σ 4 (nI k)) (nI q)) dX5_step_105 (fun H locs h => ?_)
                    exact t_v E h hr hk ⟨(K.rf.F 4 _ (by decide)).F 5 _ (by decide), k, q, hi66.1, hi66.2, rfl, rfl⟩ dX5_step_108
                  · have c79 : q < n := Nat.lt_of_not_le fun q9 => c79 ((nI_leI (a := n) (b := q) (by omega) (by omega)).mpr q9)
                    refine lv_aload_n hx hb dX5_step_82 rfl (lv_at hl 2 rfl) ?_
                    refine r_get E h 0 (v := .ref (a 1)) (eX_2 cy a (fF σ 4 (nI k))) rfl fw_X5 (by decide) fl_X5_22 rfl dX5_step_83 ?_
                    refine lv_iload_n hx hb dX5_step_86 rfl (lv_at hl 1 rfl) ?_
                    refine k_i h (q_runV (As := [.int (nI q)]) (rest := []) E h (c_X10_byteAt l D cy a (fF σ 4 (nI k)) (nI q) n hn hn4) co_X10_byteAt ml_X5_53 im_X10_byteAt se_X10_byteAt in_X10 (eX_1 cy a (fF σ 4 (nI k))) rfl ok_X10_byteAt rfl ⟨by decide, by decide⟩ hl.1 rfl (Nat.le_of_ble_eq_true rfl) dX5_step_87 ⟨Nat.zero_le _, Nat.zero_le _⟩) (wX_fst cy a) (fun r87 τ87 H locs p87 h => ?_)
                    rw [p87.1] at h
                    refine k_i h (q_runS (As := [.int r87]) (rest := []) E h (c_X5_byteKind l D cy a (fF σ 4 (nI k)) r87) co_X5_byteKind ml_X5_110 st_X5_byteKind in_X5 rfl ok_X5_byteKind rfl ⟨by decide, by decide⟩ hl.1 rfl (Nat.le_of_ble_eq_true rfl) dX5_step_90 ⟨Nat.zero_le _, Nat.zero_le _⟩) (wX_fst cy a) (fun r90 τ90 H locs p90 h => ?_)
                    rw [p90.1] at h
                    refine lv_iload_n hx hb dX5_step_93 rfl (lv_at hl 0 rfl) ?_
                    refine lv_icmp_ne (tgt := 103) hx hb dX5_step_94 (by decide) (fun c94 => ?_) (fun c94 => ?_)
                    · refine lv_aload_n hx hb dX5_step_103 rfl (lv_at hl 2 rfl) ?_
                      refine lv_iload_n hx hb dX5_step_104 rfl (lv_at hl 1 rfl) ?_
                      refine r_put E h 3 (ty := .int) (eX_2 cy a (fF σ 4 (nI k))) rfl fw_X5 tyX5_ok nmX5 (by decide) fl_X5_29 rfl (by decide +kernel) rfl rfl (Nat.le_of_ble_eq_true rfl) (sX_5 cy a (fF σ 4 (nI k)) (nI q)) dX5_step_105 (fun H locs h => ?_)
                      exact t_v E h hr hk ⟨(K.rf.F 4 _ (by decide)).F 5 _ (by decide), k, q, hi66.1, hi66.2, rfl, rfl⟩ dX5_step_108
                    · refine lv_iinc (v := nI (q + 1)) (lv' := [(1, .int (nI (q + 1))), (2, .int r48), (0, .ref (a 2))]) hx hb dX5_step_97 hl (k := 1) rfl (nI_succ q).symm (by decide) rfl (fun ls hl => ?_)
                      refine lv_goto (tgt := 66) hx hb dX5_step_100 (by decide) ?_
                      exact ih66 (q + 1) _ _ _ ⟨by omega, by omega⟩ (by omega) h (lv_sub hl [1, 0, 2] rfl)
            exact lp66 _ k _ _ _ ⟨by omega, by omega⟩ (Nat.lt_succ_self _) h (lv_sub hl [0, 1, 2] rfl)
          · have c60 : k < n := Nat.lt_of_not_le fun q9 => c60 ((nI_leI (a := n) (b := k) (by omega) (by omega)).mpr q9)
            refine lv_iinc (v := nI (k + 1)) (lv' := [(1, .int (nI (k + 1))), (2, .int r48), (0, .ref (a 2))]) hx hb dX5_step_63 hl (k := 1) rfl (nI_succ k).symm (by decide) rfl (fun ls hl => ?_)
            have lp66 : ∀ (f : Nat) (q : Nat) (H : Heap) (locs : List Loc) (ls : Array Slot), (k ≤ q ∧ q ≤ n) → (n - q) < f → HW D (AX a) s (wX cy a (fF σ 4 (nI k))) H locs → lv_has ls 3 [(1, .int (nI q)), (2, .int r48), (0, .ref (a 2))] → W p l e (rmOf 1 21) s m args below meth c H locs 0 0 (MQ below (va_Qv (fun τ => K rF rA σ τ ∧ RD n τ) (fun u t => va_P D vwCl (wX cy a u) t.heap) (AX a)) args s 0 0 (AX a)) (F0 m 66 ls []) := by
              intro f
              induction f with
              | zero => intro q H locs ls _ hf; exact absurd hf (Nat.not_lt_zero _)
              | succ f ih66 =>
                intro q H locs ls hi66 hf66 h hl
                refine lv_iload_n hx hb dX5_step_66 rfl (lv_at hl 1 rfl) ?_
                refine lv_iconst (v := 2) hx hb dX5_step_67 (by decide) ?_
                refine lv_icmp_eq (tgt := 103) hx hb dX5_step_68 (by decide) (fun c68 => ?_) (fun c68 => ?_)
                · refine lv_aload_n hx hb dX5_step_103 rfl (lv_at hl 2 rfl) ?_
                  refine lv_iload_n hx hb dX5_step_104 rfl (lv_at hl 0 rfl) ?_
                  refine r_put E h 3 (ty := .int) (eX_2 cy a (fF σ 4 (nI k))) rfl fw_X5 tyX5_ok nmX5 (by decide) fl_X5_29 rfl (by decide +kernel) rfl rfl (Nat.le_of_ble_eq_true rfl) (sX_5 cy a (fF σ 4 (nI k)) (nI q)) dX5_step_105 (fun H locs h => ?_)
                  exact t_v E h hr hk ⟨(K.rf.F 4 _ (by decide)).F 5 _ (by decide), k, q, hi66.1, hi66.2, rfl, rfl⟩ dX5_step_108
                · refine lv_iload_n hx hb dX5_step_71 rfl (lv_at hl 0 rfl) ?_
                  refine lv_aload_n hx hb dX5_step_72 rfl (lv_at hl 2 rfl) ?_
                  refine r_get E h 0 (v := .ref (a 1)) (eX_2 cy a (fF σ 4 (nI k))) rfl fw_X5 (by decide) fl_X5_22 rfl dX5_step_73 ?_
                  refine r_get E h 1 (v := .int (nI n)) (eX_1 cy a (fF σ 4 (nI k))) rfl fw_X10 (by decide) fl_X5_39 (congrArg (fun z => some (Value.int z)) hn) dX5_step_76 ?_
                  refine lv_icmp_ge (tgt := 103) hx hb dX5_step_79 (by decide) (fun c79 => ?_) (fun c79 => ?_)
                  · refine lv_aload_n hx hb dX5_step_103 rfl (lv_at hl 2 rfl) ?_
                    refine lv_iload_n hx hb dX5_step_104 rfl (lv_at hl 0 rfl) ?_
                    refine r_put E h 3 (ty := .int) (eX_2 cy a (fF σ 4 (nI k))) rfl fw_X5 tyX5_ok nmX5 (by decide) fl_X5_29 rfl (by decide +kernel) rfl rfl (Nat.le_of_ble_eq_true rfl) (sX_5 cy a (fF σ 4 (nI k)) (nI q)) dX5_step_105 (fun H locs h => ?_)
                    exact t_v E h hr hk ⟨(K.rf.F 4 _ (by decide)).F 5 _ (by decide), k, q, hi66.1, hi66.2, rfl, rfl⟩ dX5_step_108
                  · have c79 : q < n := Nat.lt_of_not_le fun q9 => c79 ((nI_leI (a := n) (b := q) (by omega) (by omega)).mpr q9)
                    refine lv_aload_n hx hb dX5_step_82 rfl (lv_at hl 2 rfl) ?_
                    refine r_get E h 0 (v := .ref (a 1)) (eX_2 cy a (fF σ 4 (nI k))) rfl fw_X5 (by decide) fl_X5_22 rfl dX5_step_83 ?_
                    refine lv_iload_n hx hb dX5_step_86 rfl (lv_at hl 0 rfl) ?_
                    refine k_i h (q_runV (As := [.int (nI q)]) (rest := []) E h (c_X10_byteAt l D cy a (fF σ 4 (nI k)) (nI q) n hn hn4) co_X10_byteAt ml_X5_53 im_X10_byteAt se_X10_byteAt in_X10 (eX_1 cy a (fF σ 4 (nI k))) rfl ok_X10_byteAt rfl ⟨by decide, by decide⟩ hl.1 rfl (Nat.le_of_ble_eq_true rfl) dX5_step_87 ⟨Nat.zero_le _, Nat.zero_le _⟩) (wX_fst cy a) (fun r87 τ87 H locs p87 h => ?_)
                    rw [p87.1] at h
                    refine k_i h (q_runS (As := [.int r87]) (rest := []) E h (c_X5_byteKind l D cy a (fF σ 4 (nI k)) r87) co_X5_byteKind ml_X5_110 st_X5_byteKind in_X5 rfl ok_X5_byteKind rfl ⟨by decide, by decide⟩ hl.1 rfl (Nat.le_of_ble_eq_true rfl) dX5_step_90 ⟨Nat.zero_le _, Nat.zero_le _⟩) (wX_fst cy a) (fun r90 τ90 H locs p90 h => ?_)
                    rw [p90.1] at h
                    refine lv_iload_n hx hb dX5_step_93 rfl (lv_at hl 1 rfl) ?_
                    refine lv_icmp_ne (tgt := 103) hx hb dX5_step_94 (by decide) (fun c94 => ?_) (fun c94 => ?_)
                    · refine lv_aload_n hx hb dX5_step_103 rfl (lv_at hl 2 rfl) ?_
                      refine lv_iload_n hx hb dX5_step_104 rfl (lv_at hl 0 rfl) ?_
                      refine r_put E h 3 (ty := .int) (eX_2 cy a (fF σ 4 (nI k))) rfl fw_X5 tyX5_ok nmX5 (by decide) fl_X5_29 rfl (by decide +kernel) rfl rfl (Nat.le_of_ble_eq_true rfl) (sX_5 cy a (fF σ 4 (nI k)) (nI q)) dX5_step_105 (fun H locs h => ?_)
                      exact t_v E h hr hk ⟨(K.rf.F 4 _ (by decide)).F 5 _ (by decide), k, q, hi66.1, hi66.2, rfl, rfl⟩ dX5_step_108
                    · refine lv_iinc (v := nI (q + 1)) (lv' := [(1, .int (nI (q + 1))), (2, .int r48), (0, .ref (a 2))]) hx hb dX5_step_97 hl (k := 0) rfl (nI_succ q).symm (by decide) rfl (fun ls hl => ?_)
                      refine lv_goto (tgt := 66) hx hb dX5_step_100 (by decide) ?_
                      exact ih66 (q + 1) _ _ _ ⟨by omega, by omega⟩ (by omega) h (lv_sub hl [0, 1, 2] rfl)
            exact lp66 _ (k + 1) _ _ _ ⟨by omega, by omega⟩ (Nat.lt_succ_self _) h (lv_sub hl [0, 1, 2] rfl)
        · refine lv_iinc (v := nI (k + 1)) (lv' := [(1, .int (nI (k + 1))), (0, .ref (a 2))]) hx hb dX5_step_29 hl (k := 0) rfl (nI_succ k).symm (by decide) rfl (fun ls hl => ?_)
          refine lv_goto (tgt := 5) hx hb dX5_step_32 (by decide) ?_
          exact ih5 (k + 1) _ _ _ (by omega) (by omega) h (lv_sub hl [0, 1] rfl)
  exact lp5 _ t0 _ _ _ ht0 (Nat.lt_succ_self _) h (lv_sub hl [0, 1] rfl)

set_option maxHeartbeats 4000000 in
set_option maxRecDepth 100000 in
theorem c_X5_takeNumber (l : Launch) (D : va_G) (cy : Nat → ClassId) (a : Nat → Nat) (σ : St) (lo hi : Int32) (n : Nat) (hn : σ.1 3 = nI n) (hn4 : n ≤ 400) (hr9 : RD n σ) : CI l yX5_takeNumber cX5_takeNumber 5 (some .int) (rmOf 2 43) D cy (wX cy a) (AX a) [.ref (a 2), .int lo, .int hi] σ (fun r τ => K rF rA σ τ ∧ RD n τ ∧ (r = -1 ∨ (lo ≤ r ∧ r ≤ hi))) := by
  refine c_of (lv := [(0, .ref (a 2)), (1, .int lo), (2, .int hi)]) rfl (Nat.le_of_ble_eq_true rfl) rfl ?_
  intro p e s m args below meth c ls E h hr hk hl
  have hx := E.1
  have hb := E.2.1
  obtain ⟨s0, t0, hst, htn, hs, ht⟩ := id hr9
  refine lv_aload_n hx hb dX5_takeNumber_0 rfl (lv_at hl 0 rfl) ?_
  refine r_get E h 0 (v := .ref (a 1)) (eX_2 cy a σ) rfl fw_X5 (by decide) fl_X5_22 rfl dX5_takeNumber_1 ?_
  refine lv_aload_n hx hb dX5_takeNumber_4 rfl (lv_at hl 0 rfl) ?_
  refine r_get E h 2 (v := .int (nI s0)) (eX_2 cy a σ) rfl fw_X5 (by decide) fl_X5_50 (congrArg (fun z => some (Value.int z)) hs) dX5_takeNumber_5 ?_
  refine k_i h (q_runV (As := [.int (nI s0)]) (rest := []) E h (c_X10_byteAt l D cy a σ (nI s0) n hn hn4) co_X10_byteAt ml_X5_53 im_X10_byteAt se_X10_byteAt in_X10 (eX_1 cy a σ) rfl ok_X10_byteAt rfl ⟨by decide, by decide⟩ hl.1 rfl (Nat.le_of_ble_eq_true rfl) dX5_takeNumber_8 ⟨Nat.zero_le _, Nat.zero_le _⟩) (wX_fst cy a) (fun r8 τ8 H locs p8 h => ?_)
  rw [p8.1] at h
  refine k_i h (q_runS (As := [.int r8]) (rest := []) E h (c_X5_byteKind l D cy a σ r8) co_X5_byteKind ml_X5_110 st_X5_byteKind in_X5 rfl ok_X5_byteKind rfl ⟨by decide, by decide⟩ hl.1 rfl (Nat.le_of_ble_eq_true rfl) dX5_takeNumber_11 ⟨Nat.zero_le _, Nat.zero_le _⟩) (wX_fst cy a) (fun r11 τ11 H locs p11 h => ?_)
  rw [p11.1] at h
  refine lv_iconst (v := 1) hx hb dX5_takeNumber_14 (by decide) ?_
  refine lv_icmp_eq (tgt := 20) hx hb dX5_takeNumber_15 (by decide) (fun c15 => ?_) (fun c15 => ?_)
  · refine lv_iconst (v := 0) hx hb dX5_takeNumber_20 (by decide) ?_
    refine lv_istore_n (lv' := [(3, .int 0), (0, .ref (a 2)), (1, .int lo), (2, .int hi)]) hx hb dX5_takeNumber_21 rfl hl (by decide) rfl (fun ls hl => ?_)
    refine lv_aload_n hx hb dX5_takeNumber_22 rfl (lv_at hl 1 rfl) ?_
    refine r_get E h 2 (v := .int (nI s0)) (eX_2 cy a σ) rfl fw_X5 (by decide) fl_X5_50 (congrArg (fun z => some (Value.int z)) hs) dX5_takeNumber_23 ?_
    refine lv_istore (lv' := [(4, .int (nI s0)), (3, .int 0), (0, .ref (a 2)), (1, .int lo), (2, .int hi)]) hx hb dX5_takeNumber_26 hl (by decide) rfl (fun ls hl => ?_)
    have lp28 : ∀ (f : Nat) (i : Nat) (u : Int32) (H : Heap) (locs : List Loc) (ls : Array Slot), (i ≤ t0) → (t0 - i) < f → HW D (AX a) s (wX cy a σ) H locs → lv_has ls 5 [(4, .int (nI i)), (3, .int u), (0, .ref (a 2)), (1, .int lo), (2, .int hi)] → W p l e (rmOf 2 43) s m args below meth c H locs 0 0 (MQ below (va_Qi (fun r τ => K rF rA σ τ ∧ RD n τ ∧ (r = -1 ∨ (lo ≤ r ∧ r ≤ hi))) (fun u t => va_P D vwCl (wX cy a u) t.heap) (AX a)) args s 0 0 (AX a)) (F0 m 28 ls []) := by
      intro f
      induction f with
      | zero => intro i u H locs ls _ hf; exact absurd hf (Nat.not_lt_zero _)
      | succ f ih28 =>
        intro i u H locs ls hi28 hf28 h hl
        refine lv_iload hx hb dX5_takeNumber_28 (lv_at hl 0 rfl) ?_
        refine lv_aload_n hx hb dX5_takeNumber_30 rfl (lv_at hl 2 rfl) ?_
        refine r_get E h 3 (v := .int (nI t0)) (eX_2 cy a σ) rfl fw_X5 (by decide) fl_X5_29 (congrArg (fun z => some (Value.int z)) ht) dX5_takeNumber_31 ?_
        refine lv_icmp_ge (tgt := 66) hx hb dX5_takeNumber_34 (by decide) (fun c34 => ?_) (fun c34 => ?_)
        · refine lv_iload_n hx hb dX5_takeNumber_66 rfl (lv_at hl 1 rfl) ?_
          refine lv_iload_n hx hb dX5_takeNumber_67 rfl (lv_at hl 3 rfl) ?_
          refine lv_iload_n hx hb dX5_takeNumber_68 rfl (lv_at hl 4 rfl) ?_
          refine k_i h (q_runSN (As := [.int u, .int lo, .int hi]) (rest := []) E h (c_X11_isWithin l D cy a σ u lo hi) co_X11_isWithin nl_X5_119 st_X11_isWithin in_X11 ok_X11_isWithin rfl ⟨by decide, by decide⟩ hl.1 rfl (Nat.le_of_ble_eq_true rfl) dX5_takeNumber_69 ⟨Nat.zero_le _, Nat.zero_le _⟩) (wX_fst cy a) (fun r69 τ69 H locs p69 h => ?_)
          rw [p69.1] at h
          refine lv_if_ne (tgt := 77) hx hb dX5_takeNumber_72 (by decide) (fun c72 => ?_) (fun c72 => ?_)
          · refine lv_aload_n hx hb dX5_takeNumber_77 rfl (lv_at hl 2 rfl) ?_
            refine k_v h (q_runV (As := []) (rest := []) E h (c_X5_step l D cy a σ n t0 hn hn4 ht htn) co_X5_step ml_X5_32 im_X5_step se_X5_step in_X5 (eX_2 cy a σ) rfl ok_X5_step rfl ⟨by decide, by decide⟩ hl.1 rfl (Nat.le_of_ble_eq_true rfl) dX5_takeNumber_78 ⟨Nat.zero_le _, Nat.zero_le _⟩) (wX_fst cy a) (fun τ78 H locs p78 h => ?_)
            refine lv_iload_n hx hb dX5_takeNumber_81 rfl (lv_at hl 1 rfl) ?_
            exact t_i E h hr hk ⟨p78.1, p78.2, Or.inr (p69.2.t c72)⟩ dX5_takeNumber_82
          · refine lv_iconst (v := -1) hx hb dX5_takeNumber_75 (by decide) ?_
            exact t_i E h hr hk ⟨K.rf, hr9, Or.inl rfl⟩ dX5_takeNumber_76
        · have c34 : i < t0 := Nat.lt_of_not_le fun q9 => c34 ((nI_leI (a := t0) (b := i) (by omega) (by omega)).mpr q9)
          refine lv_iload_n hx hb dX5_takeNumber_37 rfl (lv_at hl 1 rfl) ?_
          refine lv_bipush (v := 10) hx hb dX5_takeNumber_38 (by decide) ?_
          refine lv_imul hx hb dX5_takeNumber_40 ?_
          refine lv_aload_n hx hb dX5_takeNumber_41 rfl (lv_at hl 2 rfl) ?_
          refine r_get E h 0 (v := .ref (a 1)) (eX_2 cy a σ) rfl fw_X5 (by decide) fl_X5_22 rfl dX5_takeNumber_42 ?_
          refine lv_iload hx hb dX5_takeNumber_45 (lv_at hl 0 rfl) ?_
          refine k_i h (q_runV (As := [.int (nI i)]) (rest := [.int (u * 10)]) E h (c_X10_byteAt l D cy a σ (nI i) n hn hn4) co_X10_byteAt ml_X5_53 im_X10_byteAt se_X10_byteAt in_X10 (eX_1 cy a σ) rfl ok_X10_byteAt rfl ⟨by decide, by decide⟩ hl.1 rfl (Nat.le_of_ble_eq_true rfl) dX5_takeNumber_47 ⟨Nat.zero_le _, Nat.zero_le _⟩) (wX_fst cy a) (fun r47 τ47 H locs p47 h => ?_)
          rw [p47.1] at h
          refine lv_iadd hx hb dX5_takeNumber_50 ?_
          refine lv_bipush (v := 48) hx hb dX5_takeNumber_51 (by decide) ?_
          refine lv_isub hx hb dX5_takeNumber_53 ?_
          refine lv_ldc (v := 100001) hx hb E.2.2.2.1 (E.2.2.2.2.1 _ kc_X5_113) dX5_takeNumber_54 ?_
          refine r_mmin E hl.1 ml_X5_114 st_J9_min_7cf53 in_J9 co_J9_min_7cf53 ⟨Nat.le_of_ble_eq_true rfl, Nat.le_of_ble_eq_true rfl⟩ ⟨Nat.zero_le _, Nat.zero_le _⟩ dX5_takeNumber_56 ?_
          refine lv_istore_n (lv' := [(3, .int (if 100001 < (((u * 10) + r47) - 48) then 100001 else (((u * 10) + r47) - 48))), (4, .int (nI i)), (0, .ref (a 2)), (1, .int lo), (2, .int hi)]) hx hb dX5_takeNumber_59 rfl hl (by decide) rfl (fun ls hl => ?_)
          refine lv_iinc (v := nI (i + 1)) (lv' := [(4, .int (nI (i + 1))), (3, .int (if 100001 < (((u * 10) + r47) - 48) then 100001 else (((u * 10) + r47) - 48))), (0, .ref (a 2)), (1, .int lo), (2, .int hi)]) hx hb dX5_takeNumber_60 hl (k := 1) rfl (nI_succ i).symm (by decide) rfl (fun ls hl => ?_)
          refine lv_goto (tgt := 28) hx hb dX5_takeNumber_63 (by decide) ?_
          exact ih28 (i + 1) (if 100001 < (((u * 10) + r47) - 48) then 100001 else (((u * 10) + r47) - 48)) _ _ _ (by omega) (by omega) h (lv_sub hl [0, 1, 2, 3, 4] rfl)
    exact lp28 _ s0 0 _ _ _ hst (Nat.lt_succ_self _) h (lv_sub hl [0, 1, 2, 3, 4] rfl)
  · refine lv_iconst (v := -1) hx hb dX5_takeNumber_18 (by decide) ?_
    exact t_i E h hr hk ⟨K.rf, hr9, Or.inl rfl⟩ dX5_takeNumber_19
