set_option maxHeartbeats 4000000 in
set_option maxRecDepth 100000 in
theorem c_X11_isWithin (l : Launch) (D : va_G) (cy : Nat → ClassId) (a : Nat → Nat) (σ : St) (x lo hi : Int32)  : CI l yX11_isWithin cX11_isWithin 3 (some .boolean) (rmOf 0 0) D cy (wX cy a) (AX a) [.int x, .int lo, .int hi] σ (fun r τ => τ = σ ∧ WI x lo hi r) := by
  refine c_of (lv := [(0, .int x), (1, .int lo), (2, .int hi)]) rfl (Nat.le_of_ble_eq_true rfl) rfl ?_
  intro p e s m args below meth c ls E h hr hk hl
  have hx := E.1
  have hb := E.2.1
  refine lv_iload_n hx hb dX11_isWithin_0 rfl (lv_at hl 0 rfl) ?_
  refine lv_iload_n hx hb dX11_isWithin_1 rfl (lv_at hl 1 rfl) ?_
  refine lv_icmp_lt (tgt := 14) hx hb dX11_isWithin_2 (by decide) (fun c2 => ?_) (fun c2 => ?_)
  · refine lv_iconst (v := 0) hx hb dX11_isWithin_14 (by decide) ?_
    exact t_z E h hr hk (Or.inl rfl) ⟨rfl, Or.inr ⟨rfl, fun q => absurd q.1 (Int32.not_le.mpr c2)⟩⟩ dX11_isWithin_15
  · refine lv_iload_n hx hb dX11_isWithin_5 rfl (lv_at hl 0 rfl) ?_
    refine lv_iload_n hx hb dX11_isWithin_6 rfl (lv_at hl 2 rfl) ?_
    refine lv_icmp_gt (tgt := 14) hx hb dX11_isWithin_7 (by decide) (fun c7 => ?_) (fun c7 => ?_)
    · refine lv_iconst (v := 0) hx hb dX11_isWithin_14 (by decide) ?_
      exact t_z E h hr hk (Or.inl rfl) ⟨rfl, Or.inr ⟨rfl, fun q => absurd q.2 (Int32.not_le.mpr c7)⟩⟩ dX11_isWithin_15
    · refine lv_iconst (v := 1) hx hb dX11_isWithin_10 (by decide) ?_
      refine lv_goto (tgt := 15) hx hb dX11_isWithin_11 (by decide) ?_
      exact t_z E h hr hk (Or.inr rfl) ⟨rfl, Or.inl ⟨rfl, Int32.not_lt.mp c2, Int32.not_lt.mp c7⟩⟩ dX11_isWithin_15

set_option maxHeartbeats 4000000 in
set_option maxRecDepth 100000 in
theorem c_X11_isYear (l : Launch) (D : va_G) (cy : Nat → ClassId) (a : Nat → Nat) (σ : St) (x : Int32)  : CI l yX11_isYear cX11_isYear 1 (some .boolean) (rmOf 1 22) D cy (wX cy a) (AX a) [.int x] σ (fun r τ => τ = σ ∧ WI x 0 200 r) := by
  refine c_of (lv := [(0, .int x)]) rfl (Nat.le_of_ble_eq_true rfl) rfl ?_
  intro p e s m args below meth c ls E h hr hk hl
  have hx := E.1
  have hb := E.2.1
  refine lv_iload_n hx hb dX11_isYear_0 rfl (lv_at hl 0 rfl) ?_
  refine lv_iconst (v := 0) hx hb dX11_isYear_1 (by decide) ?_
  refine lv_sipush (v := 200) hx hb dX11_isYear_2 (by decide) ?_
  refine k_i h (q_runS (As := [.int x, .int 0, .int 200]) (rest := []) E h (c_X11_isWithin l D cy a σ x 0 200) co_X11_isWithin ml_X11_86 st_X11_isWithin in_X11 rfl ok_X11_isWithin rfl ⟨by decide, by decide⟩ hl.1 rfl (Nat.le_of_ble_eq_true rfl) dX11_isYear_5 ⟨Nat.zero_le _, Nat.zero_le _⟩) (wX_fst cy a) (fun r5 τ5 H locs p5 h => ?_)
  rw [p5.1] at h
  exact t_z E h hr hk p5.2.z ⟨rfl, p5.2⟩ dX11_isYear_8

set_option maxHeartbeats 4000000 in
set_option maxRecDepth 100000 in
theorem c_X11_isQuarter (l : Launch) (D : va_G) (cy : Nat → ClassId) (a : Nat → Nat) (σ : St) (x : Int32)  : CI l yX11_isQuarter cX11_isQuarter 1 (some .boolean) (rmOf 1 22) D cy (wX cy a) (AX a) [.int x] σ (fun r τ => τ = σ ∧ WI x 0 7 r) := by
  refine c_of (lv := [(0, .int x)]) rfl (Nat.le_of_ble_eq_true rfl) rfl ?_
  intro p e s m args below meth c ls E h hr hk hl
  have hx := E.1
  have hb := E.2.1
  refine lv_iload_n hx hb dX11_isQuarter_0 rfl (lv_at hl 0 rfl) ?_
  refine lv_iconst (v := 0) hx hb dX11_isQuarter_1 (by decide) ?_
  refine lv_bipush (v := 7) hx hb dX11_isQuarter_2 (by decide) ?_
  refine k_i h (q_runS (As := [.int x, .int 0, .int 7]) (rest := []) E h (c_X11_isWithin l D cy a σ x 0 7) co_X11_isWithin ml_X11_86 st_X11_isWithin in_X11 rfl ok_X11_isWithin rfl ⟨by decide, by decide⟩ hl.1 rfl (Nat.le_of_ble_eq_true rfl) dX11_isQuarter_4 ⟨Nat.zero_le _, Nat.zero_le _⟩) (wX_fst cy a) (fun r4 τ4 H locs p4 h => ?_)
  rw [p4.1] at h
  exact t_z E h hr hk p4.2.z ⟨rfl, p4.2⟩ dX11_isQuarter_7

set_option maxHeartbeats 4000000 in
set_option maxRecDepth 100000 in
theorem c_X11_areYears (l : Launch) (D : va_G) (cy : Nat → ClassId) (a : Nat → Nat) (σ : St) (x y : Int32)  : CI l yX11_areYears cX11_areYears 2 (some .boolean) (rmOf 2 42) D cy (wX cy a) (AX a) [.int x, .int y] σ (fun r τ => τ = σ ∧ ((r = 1 ∧ ((0 : Int32) ≤ x ∧ x ≤ 200) ∧ ((0 : Int32) ≤ y ∧ y ≤ 200) ∧ x ≤ y) ∨ (r = 0 ∧ ¬ (((0 : Int32) ≤ x ∧ x ≤ 200) ∧ ((0 : Int32) ≤ y ∧ y ≤ 200) ∧ x ≤ y)))) := by
  refine c_of (lv := [(0, .int x), (1, .int y)]) rfl (Nat.le_of_ble_eq_true rfl) rfl ?_
  intro p e s m args below meth c ls E h hr hk hl
  have hx := E.1
  have hb := E.2.1
  refine lv_iload_n hx hb dX11_areYears_0 rfl (lv_at hl 0 rfl) ?_
  refine k_i h (q_runS (As := [.int x]) (rest := []) E h (c_X11_isYear l D cy a σ x) co_X11_isYear ml_X11_97 st_X11_isYear in_X11 rfl ok_X11_isYear rfl ⟨by decide, by decide⟩ hl.1 rfl (Nat.le_of_ble_eq_true rfl) dX11_areYears_1 ⟨Nat.zero_le _, Nat.zero_le _⟩) (wX_fst cy a) (fun r1 τ1 H locs p1 h => ?_)
  rw [p1.1] at h
  refine lv_if_eq (tgt := 23) hx hb dX11_areYears_4 (by decide) (fun c4 => ?_) (fun c4 => ?_)
  · refine lv_iconst (v := 0) hx hb dX11_areYears_23 (by decide) ?_
    exact t_z E h hr hk (Or.inl rfl) ⟨rfl, Or.inr ⟨rfl, fun q => p1.2.f c4 q.1⟩⟩ dX11_areYears_24
  · refine lv_iload_n hx hb dX11_areYears_7 rfl (lv_at hl 1 rfl) ?_
    refine k_i h (q_runS (As := [.int y]) (rest := []) E h (c_X11_isYear l D cy a σ y) co_X11_isYear ml_X11_97 st_X11_isYear in_X11 rfl ok_X11_isYear rfl ⟨by decide, by decide⟩ hl.1 rfl (Nat.le_of_ble_eq_true rfl) dX11_areYears_8 ⟨Nat.zero_le _, Nat.zero_le _⟩) (wX_fst cy a) (fun r8 τ8 H locs p8 h => ?_)
    rw [p8.1] at h
    refine lv_if_eq (tgt := 23) hx hb dX11_areYears_11 (by decide) (fun c11 => ?_) (fun c11 => ?_)
    · refine lv_iconst (v := 0) hx hb dX11_areYears_23 (by decide) ?_
      exact t_z E h hr hk (Or.inl rfl) ⟨rfl, Or.inr ⟨rfl, fun q => p8.2.f c11 q.2.1⟩⟩ dX11_areYears_24
    · refine lv_iload_n hx hb dX11_areYears_14 rfl (lv_at hl 0 rfl) ?_
      refine lv_iload_n hx hb dX11_areYears_15 rfl (lv_at hl 1 rfl) ?_
      refine lv_icmp_gt (tgt := 23) hx hb dX11_areYears_16 (by decide) (fun c16 => ?_) (fun c16 => ?_)
      · refine lv_iconst (v := 0) hx hb dX11_areYears_23 (by decide) ?_
        exact t_z E h hr hk (Or.inl rfl) ⟨rfl, Or.inr ⟨rfl, fun q => absurd q.2.2 (Int32.not_le.mpr c16)⟩⟩ dX11_areYears_24
      · refine lv_iconst (v := 1) hx hb dX11_areYears_19 (by decide) ?_
        refine lv_goto (tgt := 24) hx hb dX11_areYears_20 (by decide) ?_
        exact t_z E h hr hk (Or.inr rfl) ⟨rfl, Or.inl ⟨rfl, p1.2.t c4, p8.2.t c11, Int32.not_lt.mp c16⟩⟩ dX11_areYears_24

set_option maxHeartbeats 4000000 in
set_option maxRecDepth 100000 in
theorem c_X11_told (l : Launch) (D : va_G) (cy : Nat → ClassId) (a : Nat → Nat) (σ : St) (x : Int32)  : CI l yX11_told cX11_told 2 (some .int) (rmOf 1 14) D cy (wX cy a) (AX a) [.ref (a 0), .int x] σ (fun r τ => r = x ∧ τ = fF σ 2 (if (0 : Int32) < x then 0 else x)) := by
  refine c_of (lv := [(0, .ref (a 0)), (1, .int x)]) rfl (Nat.le_of_ble_eq_true rfl) rfl ?_
  intro p e s m args below meth c ls E h hr hk hl
  have hx := E.1
  have hb := E.2.1
  refine lv_aload_n hx hb dX11_told_0 rfl (lv_at hl 0 rfl) ?_
  refine lv_iload_n hx hb dX11_told_1 rfl (lv_at hl 1 rfl) ?_
  refine lv_iconst (v := 0) hx hb dX11_told_2 (by decide) ?_
  refine r_mmin E hl.1 ml_X11_243 st_J9_min_7cf53 in_J9 co_J9_min_7cf53 ⟨Nat.le_of_ble_eq_true rfl, Nat.le_of_ble_eq_true rfl⟩ ⟨Nat.zero_le _, Nat.zero_le _⟩ dX11_told_3 ?_
  refine r_put E h 13 (ty := .int) (eX_0 cy a σ) rfl fw_X11 tyX11_ok nmX11 (by decide) fl_X11_240 rfl (by decide +kernel) rfl rfl (Nat.le_of_ble_eq_true rfl) (sX_2 cy a σ (if 0 < x then 0 else x)) dX11_told_6 (fun H locs h => ?_)
  refine lv_iload_n hx hb dX11_told_9 rfl (lv_at hl 1 rfl) ?_
  exact t_i E h hr hk ⟨rfl, rfl⟩ dX11_told_10

set_option maxHeartbeats 4000000 in
set_option maxRecDepth 100000 in
theorem c_X11_isPerson (l : Launch) (D : va_G) (cy : Nat → ClassId) (a : Nat → Nat) (σ : St) (x : Int32)  : CI l yX11_isPerson cX11_isPerson 2 (some .boolean) (rmOf 1 22) D cy (wX cy a) (AX a) [.ref (a 0), .int x] σ (fun r τ => τ = σ ∧ WI x 0 (σ.1 0 - 1) r) := by
  refine c_of (lv := [(0, .ref (a 0)), (1, .int x)]) rfl (Nat.le_of_ble_eq_true rfl) rfl ?_
  intro p e s m args below meth c ls E h hr hk hl
  have hx := E.1
  have hb := E.2.1
  refine lv_iload_n hx hb dX11_isPerson_0 rfl (lv_at hl 1 rfl) ?_
  refine lv_iconst (v := 0) hx hb dX11_isPerson_1 (by decide) ?_
  refine lv_aload_n hx hb dX11_isPerson_2 rfl (lv_at hl 0 rfl) ?_
  refine r_get E h 11 (v := .int (σ.1 0)) (eX_0 cy a σ) rfl fw_X11 (by decide) fl_X11_114 rfl dX11_isPerson_3 ?_
  refine lv_iconst (v := 1) hx hb dX11_isPerson_6 (by decide) ?_
  refine lv_isub hx hb dX11_isPerson_7 ?_
  refine k_i h (q_runS (As := [.int x, .int 0, .int ((σ.1 0) - 1)]) (rest := []) E h (c_X11_isWithin l D cy a σ x 0 ((σ.1 0) - 1)) co_X11_isWithin ml_X11_86 st_X11_isWithin in_X11 rfl ok_X11_isWithin rfl ⟨by decide, by decide⟩ hl.1 rfl (Nat.le_of_ble_eq_true rfl) dX11_isPerson_8 ⟨Nat.zero_le _, Nat.zero_le _⟩) (wX_fst cy a) (fun r8 τ8 H locs p8 h => ?_)
  rw [p8.1] at h
  exact t_z E h hr hk p8.2.z ⟨rfl, p8.2⟩ dX11_isPerson_11

set_option maxHeartbeats 4000000 in
set_option maxRecDepth 100000 in
theorem c_X9_hasAqueduct (l : Launch) (D : va_G) (cy : Nat → ClassId) (a : Nat → Nat) (σ : St) (x : Int32)  : CI l yX9_hasAqueduct cX9_hasAqueduct 2 (some .boolean) (rmOf 1 22) D cy (wX cy a) (AX a) [.ref (a 6), .int x] σ (fun r τ => τ = σ ∧ WI x 0 (σ.1 10 - 1) r) := by
  refine c_of (lv := [(0, .ref (a 6)), (1, .int x)]) rfl (Nat.le_of_ble_eq_true rfl) rfl ?_
  intro p e s m args below meth c ls E h hr hk hl
  have hx := E.1
  have hb := E.2.1
  refine lv_iload_n hx hb dX9_hasAqueduct_0 rfl (lv_at hl 1 rfl) ?_
  refine lv_iconst (v := 0) hx hb dX9_hasAqueduct_1 (by decide) ?_
  refine lv_aload_n hx hb dX9_hasAqueduct_2 rfl (lv_at hl 0 rfl) ?_
  refine r_get E h 5 (v := .int (σ.1 10)) (eX_6 cy a σ) rfl fw_X9 (by decide) fl_X9_27 rfl dX9_hasAqueduct_3 ?_
  refine lv_iconst (v := 1) hx hb dX9_hasAqueduct_6 (by decide) ?_
  refine lv_isub hx hb dX9_hasAqueduct_7 ?_
  refine k_i h (q_runSN (As := [.int x, .int 0, .int ((σ.1 10) - 1)]) (rest := []) E h (c_X11_isWithin l D cy a σ x 0 ((σ.1 10) - 1)) co_X11_isWithin nl_X9_31 st_X11_isWithin in_X11 ok_X11_isWithin rfl ⟨by decide, by decide⟩ hl.1 rfl (Nat.le_of_ble_eq_true rfl) dX9_hasAqueduct_8 ⟨Nat.zero_le _, Nat.zero_le _⟩) (wX_fst cy a) (fun r8 τ8 H locs p8 h => ?_)
  rw [p8.1] at h
  exact t_z E h hr hk p8.2.z ⟨rfl, p8.2⟩ dX9_hasAqueduct_11

set_option maxHeartbeats 4000000 in
set_option maxRecDepth 100000 in
theorem c_X0_has (l : Launch) (D : va_G) (cy : Nat → ClassId) (a : Nat → Nat) (σ : St) (x : Int32)  : CI l yX0_has cX0_has 2 (some .boolean) (rmOf 1 22) D cy (wX cy a) (AX a) [.ref (a 7), .int x] σ (fun r τ => τ = σ ∧ WI x 0 (σ.1 12 - 1) r) := by
  refine c_of (lv := [(0, .ref (a 7)), (1, .int x)]) rfl (Nat.le_of_ble_eq_true rfl) rfl ?_
  intro p e s m args below meth c ls E h hr hk hl
  have hx := E.1
  have hb := E.2.1
  refine lv_iload_n hx hb dX0_has_0 rfl (lv_at hl 1 rfl) ?_
  refine lv_iconst (v := 0) hx hb dX0_has_1 (by decide) ?_
  refine lv_aload_n hx hb dX0_has_2 rfl (lv_at hl 0 rfl) ?_
  refine r_get E h 4 (v := .int (σ.1 12)) (eX_7 cy a σ) rfl fw_X0 (by decide) fl_X0_30 rfl dX0_has_3 ?_
  refine lv_iconst (v := 1) hx hb dX0_has_6 (by decide) ?_
  refine lv_isub hx hb dX0_has_7 ?_
  refine k_i h (q_runSN (As := [.int x, .int 0, .int ((σ.1 12) - 1)]) (rest := []) E h (c_X11_isWithin l D cy a σ x 0 ((σ.1 12) - 1)) co_X11_isWithin nl_X0_34 st_X11_isWithin in_X11 ok_X11_isWithin rfl ⟨by decide, by decide⟩ hl.1 rfl (Nat.le_of_ble_eq_true rfl) dX0_has_8 ⟨Nat.zero_le _, Nat.zero_le _⟩) (wX_fst cy a) (fun r8 τ8 H locs p8 h => ?_)
  rw [p8.1] at h
  exact t_z E h hr hk p8.2.z ⟨rfl, p8.2⟩ dX0_has_11

set_option maxHeartbeats 4000000 in
set_option maxRecDepth 100000 in
theorem c_X6_has (l : Launch) (D : va_G) (cy : Nat → ClassId) (a : Nat → Nat) (σ : St) (x : Int32)  : CI l yX6_has cX6_has 2 (some .boolean) (rmOf 1 22) D cy (wX cy a) (AX a) [.ref (a 8), .int x] σ (fun r τ => τ = σ ∧ WI x 0 (σ.1 13 - 1) r) := by
  refine c_of (lv := [(0, .ref (a 8)), (1, .int x)]) rfl (Nat.le_of_ble_eq_true rfl) rfl ?_
  intro p e s m args below meth c ls E h hr hk hl
  have hx := E.1
  have hb := E.2.1
  refine lv_iload_n hx hb dX6_has_0 rfl (lv_at hl 1 rfl) ?_
  refine lv_iconst (v := 0) hx hb dX6_has_1 (by decide) ?_
  refine lv_aload_n hx hb dX6_has_2 rfl (lv_at hl 0 rfl) ?_
  refine r_get E h 6 (v := .int (σ.1 13)) (eX_8 cy a σ) rfl fw_X6 (by decide) fl_X6_36 rfl dX6_has_3 ?_
  refine lv_iconst (v := 1) hx hb dX6_has_6 (by decide) ?_
  refine lv_isub hx hb dX6_has_7 ?_
  refine k_i h (q_runSN (As := [.int x, .int 0, .int ((σ.1 13) - 1)]) (rest := []) E h (c_X11_isWithin l D cy a σ x 0 ((σ.1 13) - 1)) co_X11_isWithin nl_X6_40 st_X11_isWithin in_X11 ok_X11_isWithin rfl ⟨by decide, by decide⟩ hl.1 rfl (Nat.le_of_ble_eq_true rfl) dX6_has_8 ⟨Nat.zero_le _, Nat.zero_le _⟩) (wX_fst cy a) (fun r8 τ8 H locs p8 h => ?_)
  rw [p8.1] at h
  exact t_z E h hr hk p8.2.z ⟨rfl, p8.2⟩ dX6_has_11

set_option maxHeartbeats 4000000 in
set_option maxRecDepth 100000 in
theorem c_X9_addAqueduct (l : Launch) (D : va_G) (cy : Nat → ClassId) (a : Nat → Nat) (σ : St) (x : Int32) (q : Nat) (hq : σ.1 10 = nI q) (h4 : q ≤ 4) : CI l yX9_addAqueduct cX9_addAqueduct 2 (some .int) (rmOf 0 0) D cy (wX cy a) (AX a) [.ref (a 6), .int x] σ (fun r τ => (q = 4 ∧ r = -5 ∧ τ = σ) ∨ (q < 4 ∧ r = nI q ∧ τ = fF (fR σ 33 (upd (σ.2.1 33) q x)) 10 (nI (q + 1)))) := by
  refine c_of (lv := [(0, .ref (a 6)), (1, .int x)]) rfl (Nat.le_of_ble_eq_true rfl) rfl ?_
  intro p e s m args below meth c ls E h hr hk hl
  have hx := E.1
  have hb := E.2.1
  refine lv_aload_n hx hb dX9_addAqueduct_0 rfl (lv_at hl 0 rfl) ?_
  refine r_get E h 5 (v := .int (nI q)) (eX_6 cy a σ) rfl fw_X9 (by decide) fl_X9_27 (congrArg (fun z => some (Value.int z)) hq) dX9_addAqueduct_1 ?_
  refine lv_iconst (v := 4) hx hb dX9_addAqueduct_4 (by decide) ?_
  refine lv_icmp_lt (tgt := 11) hx hb dX9_addAqueduct_5 (by decide) (fun c5 => ?_) (fun c5 => ?_)
  · have c5 : q < 4 := n_lt (by omega) (by decide) c5
    refine lv_aload_n hx hb dX9_addAqueduct_11 rfl (lv_at hl 0 rfl) ?_
    refine r_get E h 0 (v := .ref (a 33)) (eX_6 cy a σ) rfl fw_X9 (by decide) fl_X9_9 rfl dX9_addAqueduct_12 ?_
    refine lv_aload_n hx hb dX9_addAqueduct_15 rfl (lv_at hl 0 rfl) ?_
    refine r_get E h 5 (v := .int (nI q)) (eX_6 cy a σ) rfl fw_X9 (by decide) fl_X9_27 (congrArg (fun z => some (Value.int z)) hq) dX9_addAqueduct_16 ?_
    refine lv_iload_n hx hb dX9_addAqueduct_19 rfl (lv_at hl 1 rfl) ?_
    refine r_iastN E h (f := σ.2.1 33) (eX_33 cy a σ) (j := q) c5 (by decide) (qX_33 cy a σ (upd (σ.2.1 33) q x)) dX9_addAqueduct_20 (fun H locs h => ?_)
    refine lv_aload_n hx hb dX9_addAqueduct_21 rfl (lv_at hl 0 rfl) ?_
    refine lv_dup hx hb dX9_addAqueduct_22 rfl ?_
    refine r_get E h 5 (v := .int (nI q)) (eX_6 cy a (fR σ 33 (upd (σ.2.1 33) q x))) rfl fw_X9 (by decide) fl_X9_27 (congrArg (fun z => some (Value.int z)) hq) dX9_addAqueduct_23 ?_
    refine lv_iconst (v := 1) hx hb dX9_addAqueduct_26 (by decide) ?_
    refine n_add (j := q) (k := 1) hx hb dX9_addAqueduct_27 ?_
    refine r_put E h 5 (ty := .int) (eX_6 cy a (fR σ 33 (upd (σ.2.1 33) q x))) rfl fw_X9 tyX9_ok nmX9 (by decide) fl_X9_27 rfl (by decide +kernel) rfl rfl (Nat.le_of_ble_eq_true rfl) (sX_10 cy a (fR σ 33 (upd (σ.2.1 33) q x)) (nI (q + 1))) dX9_addAqueduct_28 (fun H locs h => ?_)
    refine lv_aload_n hx hb dX9_addAqueduct_31 rfl (lv_at hl 0 rfl) ?_
    refine r_get E h 5 (v := .int (nI (q + 1))) (eX_6 cy a (fF (fR σ 33 (upd (σ.2.1 33) q x)) 10 (nI (q + 1)))) rfl fw_X9 (by decide) fl_X9_27 rfl dX9_addAqueduct_32 ?_
    refine lv_iconst (v := 1) hx hb dX9_addAqueduct_35 (by decide) ?_
    refine n_sub1 hx hb dX9_addAqueduct_36 ?_
    exact t_i E h hr hk (Or.inr ⟨c5, rfl, rfl⟩) dX9_addAqueduct_37
  · have c5 : 4 ≤ q := n_nlt (by omega) (by decide) c5
    refine lv_bipush (v := -5) hx hb dX9_addAqueduct_8 (by decide) ?_
    exact t_i E h hr hk (Or.inl ⟨by omega, rfl, rfl⟩) dX9_addAqueduct_10

set_option maxHeartbeats 4000000 in
set_option maxRecDepth 100000 in
theorem c_X1_add (l : Launch) (D : va_G) (cy : Nat → ClassId) (a : Nat → Nat) (σ : St) (x y z : Int32) (n : Nat) (hn : σ.1 9 = nI n) (hn6 : n ≤ 60) : CI l yX1_add cX1_add 4 (some .int) (rmOf 0 0) D cy (wX cy a) (AX a) [.ref (a 5), .int x, .int y, .int z] σ (fun r τ => (n = 60 ∧ r = -5 ∧ τ = σ) ∨ (n < 60 ∧ r = nI (n + 1) ∧ τ = fF (fR (fR (fR σ 29 (upd (σ.2.1 29) n x)) 30 (upd (σ.2.1 30) n y)) 31 (upd (σ.2.1 31) n z)) 9 (nI (n + 1)))) := by
  refine c_of (lv := [(0, .ref (a 5)), (1, .int x), (2, .int y), (3, .int z)]) rfl (Nat.le_of_ble_eq_true rfl) rfl ?_
  intro p e s m args below meth c ls E h hr hk hl
  have hx := E.1
  have hb := E.2.1
  refine lv_aload_n hx hb dX1_add_0 rfl (lv_at hl 0 rfl) ?_
  refine r_get E h 4 (v := .int (nI n)) (eX_5 cy a σ) rfl fw_X1 (by decide) fl_X1_24 (congrArg (fun z => some (Value.int z)) hn) dX1_add_1 ?_
  refine lv_bipush (v := 60) hx hb dX1_add_4 (by decide) ?_
  refine lv_icmp_lt (tgt := 12) hx hb dX1_add_6 (by decide) (fun c6 => ?_) (fun c6 => ?_)
  · have c6 : n < 60 := n_lt (by omega) (by decide) c6
    refine lv_aload_n hx hb dX1_add_12 rfl (lv_at hl 0 rfl) ?_
    refine r_get E h 0 (v := .ref (a 29)) (eX_5 cy a σ) rfl fw_X1 (by decide) fl_X1_9 rfl dX1_add_13 ?_
    refine lv_aload_n hx hb dX1_add_16 rfl (lv_at hl 0 rfl) ?_
    refine r_get E h 4 (v := .int (nI n)) (eX_5 cy a σ) rfl fw_X1 (by decide) fl_X1_24 (congrArg (fun z => some (Value.int z)) hn) dX1_add_17 ?_
    refine lv_iload_n hx hb dX1_add_20 rfl (lv_at hl 1 rfl) ?_
    refine r_iastN E h (f := σ.2.1 29) (eX_29 cy a σ) (j := n) c6 (by decide) (qX_29 cy a σ (upd (σ.2.1 29) n x)) dX1_add_21 (fun H locs h => ?_)
    refine lv_aload_n hx hb dX1_add_22 rfl (lv_at hl 0 rfl) ?_
    refine r_get E h 1 (v := .ref (a 30)) (eX_5 cy a (fR σ 29 (upd (σ.2.1 29) n x))) rfl fw_X1 (by decide) fl_X1_15 rfl dX1_add_23 ?_
    refine lv_aload_n hx hb dX1_add_26 rfl (lv_at hl 0 rfl) ?_
    refine r_get E h 4 (v := .int (nI n)) (eX_5 cy a (fR σ 29 (upd (σ.2.1 29) n x))) rfl fw_X1 (by decide) fl_X1_24 (congrArg (fun z => some (Value.int z)) hn) dX1_add_27 ?_
    refine lv_iload_n hx hb dX1_add_30 rfl (lv_at hl 2 rfl) ?_
    refine r_iastN E h (f := σ.2.1 30) (eX_30 cy a (fR σ 29 (upd (σ.2.1 29) n x))) (j := n) c6 (by decide) (qX_30 cy a (fR σ 29 (upd (σ.2.1 29) n x)) (upd (σ.2.1 30) n y)) dX1_add_31 (fun H locs h => ?_)
    refine lv_aload_n hx hb dX1_add_32 rfl (lv_at hl 0 rfl) ?_
    refine r_get E h 2 (v := .ref (a 31)) (eX_5 cy a (fR (fR σ 29 (upd (σ.2.1 29) n x)) 30 (upd (σ.2.1 30) n y))) rfl fw_X1 (by decide) fl_X1_18 rfl dX1_add_33 ?_
    refine lv_aload_n hx hb dX1_add_36 rfl (lv_at hl 0 rfl) ?_
    refine r_get E h 4 (v := .int (nI n)) (eX_5 cy a (fR (fR σ 29 (upd (σ.2.1 29) n x)) 30 (upd (σ.2.1 30) n y))) rfl fw_X1 (by decide) fl_X1_24 (congrArg (fun z => some (Value.int z)) hn) dX1_add_37 ?_
    refine lv_iload_n hx hb dX1_add_40 rfl (lv_at hl 3 rfl) ?_
    refine r_iastN E h (f := σ.2.1 31) (eX_31 cy a (fR (fR σ 29 (upd (σ.2.1 29) n x)) 30 (upd (σ.2.1 30) n y))) (j := n) c6 (by decide) (qX_31 cy a (fR (fR σ 29 (upd (σ.2.1 29) n x)) 30 (upd (σ.2.1 30) n y)) (upd (σ.2.1 31) n z)) dX1_add_41 (fun H locs h => ?_)
    refine lv_aload_n hx hb dX1_add_42 rfl (lv_at hl 0 rfl) ?_
    refine lv_dup hx hb dX1_add_43 rfl ?_
    refine r_get E h 4 (v := .int (nI n)) (eX_5 cy a (fR (fR (fR σ 29 (upd (σ.2.1 29) n x)) 30 (upd (σ.2.1 30) n y)) 31 (upd (σ.2.1 31) n z))) rfl fw_X1 (by decide) fl_X1_24 (congrArg (fun z => some (Value.int z)) hn) dX1_add_44 ?_
    refine lv_iconst (v := 1) hx hb dX1_add_47 (by decide) ?_
    refine n_add (j := n) (k := 1) hx hb dX1_add_48 ?_
    refine r_put E h 4 (ty := .int) (eX_5 cy a (fR (fR (fR σ 29 (upd (σ.2.1 29) n x)) 30 (upd (σ.2.1 30) n y)) 31 (upd (σ.2.1 31) n z))) rfl fw_X1 tyX1_ok nmX1 (by decide) fl_X1_24 rfl (by decide +kernel) rfl rfl (Nat.le_of_ble_eq_true rfl) (sX_9 cy a (fR (fR (fR σ 29 (upd (σ.2.1 29) n x)) 30 (upd (σ.2.1 30) n y)) 31 (upd (σ.2.1 31) n z)) (nI (n + 1))) dX1_add_49 (fun H locs h => ?_)
    refine lv_aload_n hx hb dX1_add_52 rfl (lv_at hl 0 rfl) ?_
    refine r_get E h 4 (v := .int (nI (n + 1))) (eX_5 cy a (fF (fR (fR (fR σ 29 (upd (σ.2.1 29) n x)) 30 (upd (σ.2.1 30) n y)) 31 (upd (σ.2.1 31) n z)) 9 (nI (n + 1)))) rfl fw_X1 (by decide) fl_X1_24 rfl dX1_add_53 ?_
    exact t_i E h hr hk (Or.inr ⟨c6, rfl, rfl⟩) dX1_add_56
  · have c6 : 60 ≤ n := n_nlt (by omega) (by decide) c6
    refine lv_bipush (v := -5) hx hb dX1_add_9 (by decide) ?_
    exact t_i E h hr hk (Or.inl ⟨by omega, rfl, rfl⟩) dX1_add_11
